/-! The judgement GW: a body's run from a place on, with cells made on the way (constructors, the law) -/
abbrev XT : Type := (Program × Env × State × MethodId × Array Value × List Frame × Method × Code) × (String × ByteArray × Nat) × Room × (Nat → Prop) × (State → Prop)
def CX (E : EN) (X : XT) : Prop := X.1.1.tables.exec = Jvm.exec ∧ X.1.2.2.2.2.2.2.2.code = X.2.1.2.1 ∧ X.1.2.2.2.2.2.2.2.maxLocals = X.2.1.2.2 ∧ X.1.2.2.1.vm.findClass X.2.1.1 = some X.1.2.2.2.1.cls ∧ (∀ w ∈ TB, w.before X.1.2.2.2.2.1 X.1.2.2.1 = true) ∧ va_K E.1.1 vwCl (tyE E) X.1.2.2.1 ∧ amb E X.2.2.2.1 X.1.2.2.1 X.1.2.2.1.heap ∧ (∀ q, X.1.2.2.1.heap.size ≤ q → X.2.2.2.1 q)
def GW (E : EN) (X : XT) (kn : Nat × Nat) (ws : va_W) (pc : Nat) (lv : List (Nat × Value)) (st : List Value) : Prop :=
  ∀ (H : Heap) (locs : List Loc) (ls : Array Slot), va_P E.1.1 vwCl ws H → va_D X.2.2.2.1 ws → va_S X.2.2.2.1 X.1.2.2.1.heap H locs → lv_has ls X.2.1.2.2 lv →
  W X.1.1 E.1.2 X.1.2.1 X.2.2.1 X.1.2.2.1 X.1.2.2.2.1 X.1.2.2.2.2.1 X.1.2.2.2.2.2.1 X.1.2.2.2.2.2.2.1 X.1.2.2.2.2.2.2.2 H locs kn.1 kn.2 X.2.2.2.2 (F0 X.1.2.2.2.1 pc ls st)
theorem x_eq {E : EN} {X : XT} {kn kn' : Nat × Nat} {ws : va_W} (ws' : va_W) {pc : Nat} {lv lv' : List (Nat × Value)} {st st' : List Value} (h1 : ws = ws') (k : GW E X kn' ws' pc lv' st') (h0 : kn = kn' := by rfl) (h2 : lv = lv' := by rfl) (h3 : st = st' := by rfl) : GW E X kn ws pc lv st := by rw [h0, h1, h2, h3]; exact k
theorem x_widen {E : EN} {X : XT} {kn : Nat × Nat} (kn' : Nat × Nat) {ws : va_W} {pc : Nat} {lv : List (Nat × Value)} {st : List Value} (h1 : kn.1 ≤ kn'.1) (h2 : kn.2 ≤ kn'.2) (k : GW E X kn' ws pc lv st) : GW E X kn ws pc lv st := fun H locs ls hP hD hS hl => W.widen h1 h2 (k H locs ls hP hD hS hl)
section XR
variable {E : EN} {X : XT} {kn kn' : Nat × Nat} {ws : va_W} {pc q : Nat} {lv : List (Nat × Value)} {st : List Value}
theorem x_iconst (C : CX E X) {n : Int} {v : Int32} (hdg : decode X.2.1.2.1 pc = .ok (.iconst n, 1)) (hq : pc + 1 = q) (hv : Int32.ofInt n = v) (k : GW E X kn ws q lv (.int v :: st)) : GW E X kn ws pc lv (st) := by
  subst hq
  exact fun H locs ls hP hD hS hl => lv_iconst C.1 C.2.1 hdg hv (k H locs ls hP hD hS hl)
theorem x_bipush (C : CX E X) {n : Int} {v : Int32} (hdg : decode X.2.1.2.1 pc = .ok (.bipush n, 2)) (hq : pc + 2 = q) (hv : (Int8.ofInt n).toInt32 = v) (k : GW E X kn ws q lv (.int v :: st)) : GW E X kn ws pc lv (st) := by
  subst hq
  exact fun H locs ls hP hD hS hl => lv_bipush C.1 C.2.1 hdg hv (k H locs ls hP hD hS hl)
theorem x_sipush (C : CX E X) {n : Int} {v : Int32} (hdg : decode X.2.1.2.1 pc = .ok (.sipush n, 3)) (hq : pc + 3 = q) (hv : (Int16.ofInt n).toInt32 = v) (k : GW E X kn ws q lv (.int v :: st)) : GW E X kn ws pc lv (st) := by
  subst hq
  exact fun H locs ls hP hD hS hl => lv_sipush C.1 C.2.1 hdg hv (k H locs ls hP hD hS hl)
theorem x_iload_n (C : CX E X) {n : Fin 4} {i : Nat} {x : Int32} (hdg : decode X.2.1.2.1 pc = .ok (.iload_n n, 1)) (hq : pc + 1 = q) (hi : (n : Nat) = i) (hg : lget lv i = some (.int x)) (k : GW E X kn ws q lv (.int x :: st)) : GW E X kn ws pc lv (st) := by
  subst hq
  exact fun H locs ls hP hD hS hl => lv_iload_n C.1 C.2.1 hdg hi (lget_has hl hg) (k H locs ls hP hD hS hl)
theorem x_istore_n (C : CX E X) {n : Fin 4} {i : Nat} {lv' : List (Nat × Value)} {x : Int32} (hdg : decode X.2.1.2.1 pc = .ok (.istore_n n, 1)) (hq : pc + 1 = q) (hi : (n : Nat) = i) (hn : i < X.2.1.2.2) (hv : lset lv i (.int x) = lv') (k : GW E X kn ws q lv' st) : GW E X kn ws pc lv (.int x :: st) := by
  subst hq
  subst hv
  exact fun H locs ls hP hD hS hl => lv_istore_n C.1 C.2.1 hdg hi hl hn rfl (fun ls' hl' => k H locs ls' hP hD hS (lset_has hl'))
theorem x_aload_n (C : CX E X) {n : Fin 4} {i : Nat} {x : Nat} (hdg : decode X.2.1.2.1 pc = .ok (.aload_n n, 1)) (hq : pc + 1 = q) (hi : (n : Nat) = i) (hg : lget lv i = some (.ref x)) (k : GW E X kn ws q lv (.ref x :: st)) : GW E X kn ws pc lv (st) := by
  subst hq
  exact fun H locs ls hP hD hS hl => lv_aload_n C.1 C.2.1 hdg hi (lget_has hl hg) (k H locs ls hP hD hS hl)
theorem x_astore_n (C : CX E X) {n : Fin 4} {i : Nat} {lv' : List (Nat × Value)} {x : Nat} (hdg : decode X.2.1.2.1 pc = .ok (.astore_n n, 1)) (hq : pc + 1 = q) (hi : (n : Nat) = i) (hn : i < X.2.1.2.2) (hv : lset lv i (.ref x) = lv') (k : GW E X kn ws q lv' st) : GW E X kn ws pc lv (.ref x :: st) := by
  subst hq
  subst hv
  exact fun H locs ls hP hD hS hl => lv_astore_n C.1 C.2.1 hdg hi hl hn rfl (fun ls' hl' => k H locs ls' hP hD hS (lset_has hl'))
theorem x_iinc (C : CX E X) {n : Int} {i : Nat} {lv' : List (Nat × Value)} {x v : Int32} (hdg : decode X.2.1.2.1 pc = .ok (.iinc i n, 3)) (hq : pc + 3 = q) (hg : lget lv i = some (.int x)) (hx : x + Int32.ofInt n = v) (hn : i < X.2.1.2.2) (hv : lset lv i (.int v) = lv') (k : GW E X kn ws q lv' st) : GW E X kn ws pc lv st := by
  subst hq
  subst hv
  intro H locs ls hP hD hS hl
  obtain ⟨j, hj⟩ := List.mem_iff_getElem?.mp (lget_mem hg)
  exact lv_iinc C.1 C.2.1 hdg hl (k := j) hj hx hn rfl (fun ls' hl' => k H locs ls' hP hD hS (lset_has hl'))
theorem x_iadd (C : CX E X) {x y : Int32} (hdg : decode X.2.1.2.1 pc = .ok (.iadd, 1)) (hq : pc + 1 = q) (k : GW E X kn ws q lv (.int (x + y) :: st)) : GW E X kn ws pc lv (.int y :: .int x :: st) := by
  subst hq
  exact fun H locs ls hP hD hS hl => lv_iadd C.1 C.2.1 hdg (k H locs ls hP hD hS hl)
theorem x_isub (C : CX E X) {x y : Int32} (hdg : decode X.2.1.2.1 pc = .ok (.isub, 1)) (hq : pc + 1 = q) (k : GW E X kn ws q lv (.int (x - y) :: st)) : GW E X kn ws pc lv (.int y :: .int x :: st) := by
  subst hq
  exact fun H locs ls hP hD hS hl => lv_isub C.1 C.2.1 hdg (k H locs ls hP hD hS hl)
theorem x_iand (C : CX E X) {x y : Int32} (hdg : decode X.2.1.2.1 pc = .ok (.iand, 1)) (hq : pc + 1 = q) (k : GW E X kn ws q lv (.int (x &&& y) :: st)) : GW E X kn ws pc lv (.int y :: .int x :: st) := by
  subst hq
  exact fun H locs ls hP hD hS hl => lv_iand C.1 C.2.1 hdg (k H locs ls hP hD hS hl)
theorem x_land (C : CX E X) {x y : Int64} (hdg : decode X.2.1.2.1 pc = .ok (.land, 1)) (hq : pc + 1 = q) (k : GW E X kn ws q lv (.long (x &&& y) :: st)) : GW E X kn ws pc lv (.long y :: .long x :: st) := by
  subst hq
  exact fun H locs ls hP hD hS hl => lv_land C.1 C.2.1 hdg (k H locs ls hP hD hS hl)
theorem x_lor (C : CX E X) {x y : Int64} (hdg : decode X.2.1.2.1 pc = .ok (.lor, 1)) (hq : pc + 1 = q) (k : GW E X kn ws q lv (.long (x ||| y) :: st)) : GW E X kn ws pc lv (.long y :: .long x :: st) := by
  subst hq
  exact fun H locs ls hP hD hS hl => lv_lor C.1 C.2.1 hdg (k H locs ls hP hD hS hl)
theorem x_lshl (C : CX E X) {x : Int64} {y : Int32} (hdg : decode X.2.1.2.1 pc = .ok (.lshl, 1)) (hq : pc + 1 = q) (k : GW E X kn ws q lv (.long (x <<< (y.toInt64 &&& 63)) :: st)) : GW E X kn ws pc lv (.int y :: .long x :: st) := by
  subst hq
  exact fun H locs ls hP hD hS hl => lv_lshl C.1 C.2.1 hdg rfl (k H locs ls hP hD hS hl)
theorem x_i2l (C : CX E X) {x : Int32} (hdg : decode X.2.1.2.1 pc = .ok (.i2l, 1)) (hq : pc + 1 = q) (k : GW E X kn ws q lv (.long x.toInt64 :: st)) : GW E X kn ws pc lv (.int x :: st) := by
  subst hq
  exact fun H locs ls hP hD hS hl => lv_i2l C.1 C.2.1 hdg rfl (k H locs ls hP hD hS hl)
theorem x_dup (C : CX E X) {v : Value} (hdg : decode X.2.1.2.1 pc = .ok (.dup, 1)) (hq : pc + 1 = q) (hc : v.category = 1) (k : GW E X kn ws q lv (v :: v :: st)) : GW E X kn ws pc lv (v :: st) := by
  subst hq
  exact fun H locs ls hP hD hS hl => lv_dup C.1 C.2.1 hdg hc (k H locs ls hP hD hS hl)
theorem x_goto (C : CX E X) {off : Int} (hdg : decode X.2.1.2.1 pc = .ok (.goto off, 3)) (hq : (pc : Int) + off = (q : Int)) (k : GW E X kn ws q lv st) : GW E X kn ws pc lv st := fun H locs ls hP hD hS hl => lv_goto C.1 C.2.1 hdg hq (k H locs ls hP hD hS hl)
theorem x_icmp_eq (C : CX E X) {x y : Int32} {off : Int} {t : Nat} (hdg : decode X.2.1.2.1 pc = .ok (.if_icmp .eq off, 3)) (ht : (pc : Int) + off = (t : Int)) (hq : pc + 3 = q) (kt : x = y → GW E X kn ws t lv st) (kf : ¬ x = y → GW E X kn ws q lv st) : GW E X kn ws pc lv (.int y :: .int x :: st) := by
  subst hq
  exact fun H locs ls hP hD hS hl => lv_icmp_eq C.1 C.2.1 hdg ht (fun h => kt h H locs ls hP hD hS hl) (fun h => kf h H locs ls hP hD hS hl)
theorem x_icmp_gt (C : CX E X) {x y : Int32} {off : Int} {t : Nat} (hdg : decode X.2.1.2.1 pc = .ok (.if_icmp .gt off, 3)) (ht : (pc : Int) + off = (t : Int)) (hq : pc + 3 = q) (kt : y < x → GW E X kn ws t lv st) (kf : ¬ y < x → GW E X kn ws q lv st) : GW E X kn ws pc lv (.int y :: .int x :: st) := by
  subst hq
  exact fun H locs ls hP hD hS hl => lv_icmp_gt C.1 C.2.1 hdg ht (fun h => kt h H locs ls hP hD hS hl) (fun h => kf h H locs ls hP hD hS hl)
theorem x_ldc2 (C : CX E X) {own : String} {index : Nat} {v : Int64} (hown : X.2.1.1 = own) (hc : Cond.constantLong own index v ∈ TB) (hdg : decode X.2.1.2.1 pc = .ok (.ldc2_w index, 3)) (hq : pc + 3 = q) (k : GW E X kn ws q lv (.long v :: st)) : GW E X kn ws pc lv st := by
  subst hq
  subst hown
  exact fun H locs ls hP hD hS hl => lv_ldc2 C.1 C.2.1 C.2.2.2.1 (C.2.2.2.2.1 _ hc) hdg (k H locs ls hP hD hS hl)
theorem x_tableIn (C : CX E X) {dflt lo hi : Int} {offs : Array Int} {len : Nat} {x : Int32} {off : Int} (hdg : decode X.2.1.2.1 pc = .ok (.tableswitch dflt lo hi offs, len)) (h1 : ¬ x.toInt < lo) (h2 : ¬ hi < x.toInt) (ho : offs[(x.toInt - lo).toNat]? = some off) (ht : (pc : Int) + off = (q : Int)) (k : GW E X kn ws q lv st) : GW E X kn ws pc lv (.int x :: st) := fun H locs ls hP hD hS hl => lv_tableIn C.1 C.2.1 hdg h1 h2 ho ht (k H locs ls hP hD hS hl)
theorem x_tableOut (C : CX E X) {dflt lo hi : Int} {offs : Array Int} {len : Nat} {x : Int32} (hdg : decode X.2.1.2.1 pc = .ok (.tableswitch dflt lo hi offs, len)) (h : x.toInt < lo ∨ hi < x.toInt) (ht : (pc : Int) + dflt = (q : Int)) (k : GW E X kn ws q lv st) : GW E X kn ws pc lv (.int x :: st) := fun H locs ls hP hD hS hl => lv_tableOut C.1 C.2.1 hdg h ht (k H locs ls hP hD hS hl)
theorem x_get (C : CX E X) {own C0 : String} {T : u_T} {N ci index : Nat} {a : Nat} {fs : List Value} {v : Value} (hown : X.2.1.1 = own) (hin : ∀ w ∈ u_ws C0 T N, w ∈ TB) (hc : vwCl[ci]? = some (C0, T, N)) (k : Nat) (hk : k < N) (hlink : Cond.fieldLink own index (T k).1 (T k).2.1 (T k).2.2.1 ∈ TB) (q0 : Nat) (he : ws[q0]? = some (a, .inr (ci, fs))) (hv : fs[k]? = some v) (hdg : decode X.2.1.2.1 pc = .ok (.getfield index, 3)) (hq : pc + 3 = q) (kk : GW E X kn ws q lv (v :: st)) : GW E X kn ws pc lv (.ref a :: st) := by
  subst hq
  subst hown
  exact fun H locs ls hP hD hS hl => va_get C.1 C.2.1 C.2.2.2.2.1 hin C.2.2.2.1 C.2.2.2.2.2.1 hP q0 he hc k hk (C.2.2.2.2.1 _ hlink) (fun _ h => h) hv hdg (kk H locs ls hP hD hS hl)
theorem x_put (C : CX E X) {own C0 : String} {T : u_T} {N ci index : Nat} {a : Nat} {fs : List Value} {v : Value} {ty : FieldType} {ws' : va_W} (hown : X.2.1.1 = own) (hin : ∀ w ∈ u_ws C0 T N, w ∈ TB) (ty0 : Nat → FieldType) (hty : ∀ k, k < N → parseFieldDescriptor (T k).2.2.1 = some (ty0 k)) (hnm : ∀ a, a < N → ∀ b, b < N → a ≠ b → (T a).2.1 ≠ (T b).2.1) (hc : vwCl[ci]? = some (C0, T, N)) (k : Nat) (hk : k < N) (hlink : Cond.fieldLink own index (T k).1 (T k).2.1 (T k).2.2.1 ∈ TB) (hfin : (T k).2.2.2 = false) (hd : parseFieldDescriptor (T k).2.2.1 = some ty) (hn : narrow ty v = v) (hfit : fits ty v = true) (q0 : Nat) (he : ws[q0]? = some (a, .inr (ci, fs))) (hl0 : k < fs.length) (hws : ws.set q0 (a, .inr (ci, fs.set k v)) = ws') (hdg : decode X.2.1.2.1 pc = .ok (.putfield index, 3)) (hq : pc + 3 = q) (kk : GW E X kn ws' q lv st) : GW E X kn ws pc lv (v :: .ref a :: st) := by
  subst hq
  subst hown
  subst hws
  exact fun H locs ls hP hD hS hl => va_put C.1 C.2.1 C.2.2.2.2.1 hin ty0 hty hnm C.2.2.2.1 C.2.2.2.2.2.1 hP hD hS q0 he hc k hk (C.2.2.2.2.1 _ hlink) (fun _ h => h) hfin hd hn hfit hl0 hdg (fun H1 locs1 hP1 hD1 hS1 => kk H1 locs1 ls hP1 hD1 hS1 hl)
theorem x_putF (C : CX E X) {own C0 : String} {T : u_T} {N ci index : Nat} {a : Nat} {fs : List Value} {v : Value} {ty : FieldType} {ws' : va_W} (hown : X.2.1.1 = own) (hin : ∀ w ∈ u_ws C0 T N, w ∈ TB) (ty0 : Nat → FieldType) (hty : ∀ k, k < N → parseFieldDescriptor (T k).2.2.1 = some (ty0 k)) (hnm : ∀ a, a < N → ∀ b, b < N → a ≠ b → (T a).2.1 ≠ (T b).2.1) (hc : vwCl[ci]? = some (C0, T, N)) (k : Nat) (hk : k < N) (hlink : Cond.fieldLink own index (T k).1 (T k).2.1 (T k).2.2.1 ∈ TB) (hfin : (T k).2.2.2 = true) (hdecl : (T k).1 = own) (hmn : X.1.2.2.2.2.2.2.1.name = "<init>") (hd : parseFieldDescriptor (T k).2.2.1 = some ty) (hn : narrow ty v = v) (hfit : fits ty v = true) (q0 : Nat) (he : ws[q0]? = some (a, .inr (ci, fs))) (hl0 : k < fs.length) (hws : ws.set q0 (a, .inr (ci, fs.set k v)) = ws') (hdg : decode X.2.1.2.1 pc = .ok (.putfield index, 3)) (hq : pc + 3 = q) (kk : GW E X kn ws' q lv st) : GW E X kn ws pc lv (v :: .ref a :: st) := by
  subst hq
  subst hown
  subst hws
  exact fun H locs ls hP hD hS hl => va_putF C.1 C.2.1 C.2.2.2.2.1 hin ty0 hty hnm C.2.2.2.1 C.2.2.2.2.2.1 hP hD hS q0 he hc k hk (C.2.2.2.2.1 _ hlink) (fun _ h => h) hfin hmn hdecl hd hn hfit hl0 hdg (fun H1 locs1 hP1 hD1 hS1 => kk H1 locs1 ls hP1 hD1 hS1 hl)
theorem nI_nn {N : Nat} (h : N < 2147483648) : ¬ nI N < 0 := fun z => by
  have h1 := Int32.lt_iff_toInt_lt.mp z
  rw [nI_toInt h] at h1
  have h2 : (0 : Int32).toInt = 0 := by decide
  omega
theorem x_newG (C : CX E X) {atype : ArrayType} {ty : FieldType} {cA : ClassId} {N : Nat} {f : Nat → Int32} (hty : newarray.typeOf atype = ty) (t0 : Nat) (ht : (tyE E)[t0]? = some (cA, ty)) (hRA : ∀ (U : State) (c : ClassId), va_RA U c ty → U.vm.findClass ("[" ++ ty.toString) = some c) (hdef : defaultValue ty = .int 0) (harr : Cond.arrayClass ty ∈ TB) (hf : ∀ j, f j = 0) (hN : N < 2147483648) (hb : N * componentBytes ty ≤ 536870912) (hc : kn.1 + 1 ≤ X.2.2.1.cells) (hs : kn.2 + N ≤ X.2.2.1.slots) (hkn : (kn.1 + 1, kn.2 + N) = kn') (hdg : decode X.2.1.2.1 pc = .ok (.newarray atype, 2)) (hq : pc + 2 = q) (kk : ∀ a : Nat, GW E X kn' (ws ++ [(a, .inl (cA, N, .inl f))]) q lv (.ref a :: st)) : GW E X kn ws pc lv (.int (nI N) :: st) := by
  subst hq
  subst hkn
  intro H locs ls hP hD hS hl
  refine va_newa (a0 := (N, .inl f)) C.1 C.2.1 (by rw [hty]; exact C.2.2.2.2.1 _ harr) hty C.2.2.2.2.2.1 hP hD hS C.2.2.2.2.2.2.2 (fun cA' => ?_) (nI_nn hN) (nI_clamp hN) hb hc hs hdg (fun a cA' H1 hK1 hP1 hD1 hS1 => ?_)
  · rw [vp_cell_i, hdef]
    exact arrV_cong (fun j _ => by rw [hf j])
  · have e : cA' = cA := Option.some.inj ((hRA _ _ (hK1.2 4 (cA', ty) rfl).2).symm.trans (hRA _ _ (C.2.2.2.2.2.1.2 t0 _ ht).2))
    subst e
    exact kk a H1 locs ls hP1 hD1 hS1 hl
theorem x_newI (C : CX E X) {N : Nat} {f : Nat → Int32} (hf : ∀ j, f j = 0) (hN : N < 2147483648) (hb : N * 4 ≤ 536870912) (hc : kn.1 + 1 ≤ X.2.2.1.cells) (hs : kn.2 + N ≤ X.2.2.1.slots) (hkn : (kn.1 + 1, kn.2 + N) = kn') (hdg : decode X.2.1.2.1 pc = .ok (.newarray .int, 2)) (hq : pc + 2 = q) (kk : ∀ a : Nat, GW E X kn' (ws ++ [(a, .inl (E.2.1.1, N, .inl f))]) q lv (.ref a :: st)) : GW E X kn ws pc lv (.int (nI N) :: st) := x_newG C (ty := .int) rfl 0 rfl (fun _ _ h => h) rfl (tb_in 170 (by decide +kernel) rfl) hf hN hb hc hs hkn hdg hq kk
theorem x_newB (C : CX E X) {N : Nat} {f : Nat → Int32} (hf : ∀ j, f j = 0) (hN : N < 2147483648) (hb : N * 1 ≤ 536870912) (hc : kn.1 + 1 ≤ X.2.2.1.cells) (hs : kn.2 + N ≤ X.2.2.1.slots) (hkn : (kn.1 + 1, kn.2 + N) = kn') (hdg : decode X.2.1.2.1 pc = .ok (.newarray .byte, 2)) (hq : pc + 2 = q) (kk : ∀ a : Nat, GW E X kn' (ws ++ [(a, .inl (E.2.1.2.1, N, .inl f))]) q lv (.ref a :: st)) : GW E X kn ws pc lv (.int (nI N) :: st) := x_newG C (ty := .byte) rfl 1 rfl (fun _ _ h => h) rfl (tb_in 101 (by decide +kernel) rfl) hf hN hb hc hs hkn hdg hq kk
theorem x_newZ (C : CX E X) {N : Nat} {f : Nat → Int32} (hf : ∀ j, f j = 0) (hN : N < 2147483648) (hb : N * 1 ≤ 536870912) (hc : kn.1 + 1 ≤ X.2.2.1.cells) (hs : kn.2 + N ≤ X.2.2.1.slots) (hkn : (kn.1 + 1, kn.2 + N) = kn') (hdg : decode X.2.1.2.1 pc = .ok (.newarray .boolean, 2)) (hq : pc + 2 = q) (kk : ∀ a : Nat, GW E X kn' (ws ++ [(a, .inl (E.2.1.2.2.1, N, .inl f))]) q lv (.ref a :: st)) : GW E X kn ws pc lv (.int (nI N) :: st) := x_newG C (ty := .boolean) rfl 2 rfl (fun _ _ h => h) rfl (tb_in 279 (by decide +kernel) rfl) hf hN hb hc hs hkn hdg hq kk
theorem x_newQ (C : CX E X) {N index : Nat} (hao : va_AO "PoundBoys$Folk" X.1.2.2.1) {own : String} (hown : X.2.1.1 = own) (hcl : Cond.classLink own index "PoundBoys$Folk" ∈ TB) (hN : N < 2147483648) (hb : N * 4 ≤ 536870912) (hc : kn.1 + 1 ≤ X.2.2.1.cells) (hs : kn.2 + N ≤ X.2.2.1.slots) (hkn : (kn.1 + 1, kn.2 + N) = kn') (hdg : decode X.2.1.2.1 pc = .ok (.anewarray index, 3)) (hq : pc + 3 = q) (kk : ∀ a : Nat, GW E X kn' (ws ++ [(a, .inl (E.2.1.2.2.2, N, .inr (.inr (.inr (.inr (fun _ => none))))))]) q lv (.ref a :: st)) : GW E X kn ws pc lv (.int (nI N) :: st) := by
  subst hq
  subst hkn
  subst hown
  intro H locs ls hP hD hS hl
  refine va_newq (C := "PoundBoys$Folk") C.1 C.2.1 C.2.2.2.1 (C.2.2.2.2.1 _ hcl) hao C.2.2.2.2.2.1 hP hD hS C.2.2.2.2.2.2.2 (nI_nn hN) (nI_clamp hN) hb hc hs hdg (fun a cA' H1 hK1 hP1 hD1 hS1 => ?_)
  obtain ⟨k1, c1, -, -, -, e1⟩ := (hK1.2 4 (cA', .object "PoundBoys$Folk") rfl).2
  obtain ⟨k2, c2, -, -, -, e2⟩ := (C.2.2.2.2.2.1.2 3 _ rfl).2
  have e : cA' = E.2.1.2.2.2 := Option.some.inj (e1.symm.trans e2)
  subst e
  exact kk a H1 locs ls hP1 hD1 hS1 hl
theorem x_aast (C : CX E X) {a v n ci : Nat} {vs : List Value} {f : Nat → Option Nat} {i : Int32} {r : vw_C} {ws' : va_W} (q0 qk : Nat) (ha : ws[q0]? = some (a, .inl (E.2.1.2.2.2, n, .inr (.inr (.inr (.inr f)))))) (hv : ws[qk]? = some (v, .inr (2, vs))) (hin : vp_in i n) (hws : ws.set q0 (a, .inl (E.2.1.2.2.2, n, .inr (.inr (.inr (.inr (va_up f i.toNatClampNeg (some v))))))) = ws') (hdg : decode X.2.1.2.1 pc = .ok (.aastore, 1)) (hq : pc + 1 = q) (kk : GW E X kn ws' q lv st) : GW E X kn ws pc lv (.ref v :: .int i :: .ref a :: st) := by
  subst hq
  subst hws
  exact fun H locs ls hP hD hS hl => va_astq C.1 C.2.1 C.2.2.2.2.2.1 hP hD hS q0 3 qk 2 (r := (RX2, TX2, 8)) ha rfl hv rfl hin hdg (fun H1 locs1 hP1 hD1 hS1 => kk H1 locs1 ls hP1 hD1 hS1 hl)
theorem x_congQ {ws' : va_W} {a n : Nat} {cA : ClassId} {f : Nat → Option Nat} (g : Nat → Option Nat) (p0 : Nat) (he : ws[p0]? = some (a, .inl (cA, n, .inr (.inr (.inr (.inr f)))))) (h : ∀ j, j < n → f j = g j) (hws : ws.set p0 (a, .inl (cA, n, .inr (.inr (.inr (.inr g))))) = ws') (k : GW E X kn ws' pc lv st) : GW E X kn ws pc lv st := by
  subst hws
  intro H locs ls hP hD hS hl
  refine k H locs ls ?_ (hD.set he) hS hl
  refine hP.set hD he ?_ (fun q _ => rfl)
  have h1 := hP p0 _ he
  show H[a]? = some (vp_cell cA (n, .inr (.inr (.inr (.inr g)))))
  rw [vp_cell_q, ← arrV_cong (cA := cA) (n := n) (f := fun j => va_rf (f j)) (fun j hj => by rw [h j hj])]
  exact h1
theorem x_new (C : CX E X) {own Cn : String} {T : u_T} {N ci index : Nat} {fs : List Value} (hown : X.2.1.1 = own) (hin : ∀ w ∈ u_ws Cn T N, w ∈ TB) (ty : Nat → FieldType) (hty : ∀ k, k < N → parseFieldDescriptor (T k).2.2.1 = some (ty k)) (hcl : Cond.classLink own index Cn ∈ TB) (hinst : Cond.instantiable Cn N ∈ TB) (hini : Cond.initialized Cn ∈ TB) (hc : vwCl[ci]? = some (Cn, T, N)) (hfs : ∀ j, j < N → defaultValue (ty j) = vp_V fs j) (hcc : kn.1 + 1 ≤ X.2.2.1.cells) (hs : kn.2 + N ≤ X.2.2.1.slots) (hkn : (kn.1 + 1, kn.2 + N) = kn') (hdg : decode X.2.1.2.1 pc = .ok (.new index, 3)) (hq : pc + 3 = q) (kk : ∀ a : Nat, GW E X kn' (ws ++ [(a, .inr (ci, fs))]) q lv (.ref a :: st)) : GW E X kn ws pc lv st := by
  subst hq
  subst hkn
  subst hown
  exact fun H locs ls hP hD hS hl => va_new C.1 C.2.1 C.2.2.2.2.1 hin ty hty C.2.2.2.1 (C.2.2.2.2.1 _ hcl) (C.2.2.2.2.1 _ hinst) (C.2.2.2.2.1 _ hini) C.2.2.2.2.2.1 hP hD hS C.2.2.2.2.2.2.2 hc hfs hcc hs hdg (fun a H1 hP1 hD1 hS1 => kk a H1 locs ls hP1 hD1 hS1 hl)
theorem x_obj (C : CX E X) {own : String} {idx a : Nat} (hown : X.2.1.1 = own) (hlink : Cond.methodLink own idx Lib.objectInit ∈ TB) (hf : 1 ≤ X.2.2.1.frames) (hlo : (st.map fun v => v.category).sum + 12 ≤ X.2.2.1.locals) (hdg : decode X.2.1.2.1 pc = .ok (.invokespecial idx, 3)) (hq : pc + 3 = q) (kk : GW E X kn ws q lv st) : GW E X kn ws pc lv (.ref a :: st) := by
  subst hq
  subst hown
  intro H locs ls hP hD hS hl
  refine W.objInit C.1 C.2.1 C.2.2.2.1 (C.2.2.2.2.1 _ hlink) (C.2.2.2.2.1 _ (tb_in 84 (by decide +kernel) rfl)) (C.2.2.2.2.1 _ (tb_in 85 (by decide +kernel) rfl)) rfl (by rw [C.2.2.1]; exact hl.1) rfl hdg hf (by show 2 * 0 + _ + 12 ≤ _; omega) ?_
  exact kk H locs ls hP hD hS hl
theorem x_callV (C : CX E X) {own Cn : String} {T : u_T} {N ci index nL n d' a : Nat} {y : MethodName} {b : ByteArray} {rt : Option FieldType} {fs As rest st0 : List Value} {wc : va_W} {Qr : Option Value → va_W → Prop} (hown : X.2.1.1 = own) (h1 : Cond.methodLink own index y ∈ TB) (h2 : Cond.instanceMethod y ∈ TB) (h3 : Cond.selects Cn y y ∈ TB) (h4 : Cond.initialized Cn ∈ TB) (h5 : Cond.code y b nL rt ∈ TB) (hd : y.cls = Cn ∧ y.cls ≠ "java/lang/invoke/MethodHandle" ∧ y.cls ≠ "java/lang/invoke/VarHandle" ∧ (parseMethodDescriptor y.desc).map (fun d => d.parameters.length) = some n) (hnL : nL ≤ 45) (hc : vwCl[ci]? = some (Cn, T, N))
    (hM : CT E y b nL rt d' (.ref a :: As) wc Qr) (hd1 : d' + 1 ≤ X.2.2.1.frames) (hd2 : 64 * (d' + 1) ≤ X.2.2.1.locals) (hk1 : kn.1 ≤ X.2.2.1.cells) (hk2 : kn.2 ≤ X.2.2.1.slots) (hlen : As.length = n) (q0 : Nat) (he : ws[q0]? = some (a, .inr (ci, fs))) (is : List Nat) (hnd : va_nd is = true) (hC : is.map (fun i => ws[i]?) = wc.map some) (hst : st0 = As.reverse ++ .ref a :: rest) (hroom : (rest.map fun v => v.category).sum ≤ 8) (hdg : decode X.2.1.2.1 pc = .ok (.invokevirtual index, 3)) (hq : pc + 3 = q)
    (kk : ∀ (r : Option Value) (w' : va_W), Qr r w' → GW E X kn (putAt ws is w') q lv (r.toList ++ rest)) : GW E X kn ws pc lv st0 := by
  subst hq
  subst hown
  intro H locs ls hP hD hS hl
  have C1 := C
  obtain ⟨hx, hb, hml, ho, hts, hK, ha, hA⟩ := C1
  have hFc := va_free hD hS hA is hC
  refine va_callD (va_runV (As := As) (rest := rest) ⟨hx, hb, hml, ho, hts⟩ (hM H.size) (cwV n hts (gi_V h1 h2 h3 h4 h5) rfl rfl rfl hd ⟨hd1, by show 8 + (nL + 11) + 64 * d' ≤ _; omega⟩) ⟨pc_blind, va_recv hK hP hc he, fun U hU hW => pc_at hK ha hA hP hD hS is hnd hC hU hW⟩ rfl hlen hl.1 hst (lv_room hroom) hdg ⟨hk1, hk2⟩) hS (fun q _ h => hFc q h) hFc (fun r w' H1 locs1 hq hw hP1 hk hS1 => ?_)
  obtain ⟨hP2, hD2⟩ := join_put hP hD is hC hw hP1 hk
  exact kk r w' hq H1 locs1 ls hP2 hD2 hS1 hl
end XR
/-! constructors -/
def nwL : List (String × Nat × MethodName) := [(RX9, 9, yX8_init), (RX9, 18, yX3_init), (RX3, 29, yX2_init), (RX4, 11, yX3_init), (RX9, 34, yX2_init), (RX9, 49, yX1_init), (RX9, 56, yX0_init), (RX9, 82, yX7_init), (RX9, 89, yX6_init)]
def nwOK (U : State) : Prop := (∀ q ∈ nwL, va_Nw (.methodLinkNest q.1 q.2.1 q.2.2 "PoundBoys") U) ∧ va_AO "PoundBoys$Folk" U
theorem nwOK.moved {u U : State} (hW : u.WarmedH U.vm) (h : nwOK u) : nwOK U := ⟨fun q hq => va_Nw.warmM hW (h.1 q hq), va_AO.moved hW.alike h.2⟩
theorem nwOK.same {u U : State} (hv : U.vm = u.vm) (h : nwOK u) : nwOK U := ⟨fun q hq => va_Nw.same rfl hv.symm (h.1 q hq), va_AO.moved (by rw [hv]; exact Vm.Alike.refl u.vm) h.2⟩
def PI (E : EN) (w : va_W) (sz : Nat) : State → Prop := fun U => PC E w sz U ∧ nwOK U
def rmI (d mc ms : Nat) : Room := { frames := d, cells := mc, slots := ms, locals := 64 * d }
def QI (E : EN) (Qr : va_W → Prop) (A : Nat → Prop) : Array Value → State → Outcome → State → Prop := fun _ st oc t => (∃ w' : va_W, oc = .returned none ∧ Qr w' ∧ va_P E.1.1 vwCl w' t.heap ∧ va_D A w') ∧ va_F A st t
def CI (E : EN) (y : MethodName) (b : ByteArray) (nL d mc ms : Nat) (av : List Value) (w : va_W) (Qr : va_W → Prop) : Prop :=
  ∀ sz : Nat, Met E.1.2 y (.code y b nL none :: TB) (rmI d mc ms) (va_Pc av (PI E w sz)) (QI E Qr (va_A w sz)) mc ms (va_A w sz)
theorem ci_of {E : EN} {y : MethodName} {b : ByteArray} {nL d mc ms : Nat} {av : List Value} {w : va_W} {Qr : va_W → Prop} (hy : plainName y.cls = true) (hyn : y.name = "<init>") (hlen : (lg_sl av).length ≤ nL) {lv : List (Nat × Value)} (hlv : lv_args 0 av = lv)
    (k : ∀ (Y : Program × Env × State × MethodId × Array Value × List Frame × Method × Code) (A : Nat → Prop) (Q : State → Prop), CX E (Y, (y.cls, b, nL), rmI d mc ms, A, Q) → nwOK Y.2.2.1 → Y.2.2.2.2.2.2.1.name = "<init>" → (∀ (w' : va_W) (pc : Nat) (lv : List (Nat × Value)), Qr w' → decode b pc = .ok (.return_, 1) → GW E (Y, (y.cls, b, nL), rmI d mc ms, A, Q) (mc, ms) w' pc lv []) → GW E (Y, (y.cls, b, nL), rmI d mc ms, A, Q) (0, 0) w 0 lv []) : CI E y b nL d mc ms av w Qr := by
  intro sz
  refine Met.ofW (cc := b) (maxL := nL) (ret := none) hy rfl ?_
  intro p e s m args below meth c s₁ B hml hv
  obtain ⟨rfl, ⟨hsz, hP, hK, hD0, hamb⟩, hnw⟩ := hv
  have hts : ∀ w ∈ TB, w.before av.toArray s = true := fun w hw => atoms_spec (ws := .code y b nL none :: TB) B.pre w (List.mem_cons_of_mem _ hw)
  have hown : s.vm.findClass y.cls = some m.cls := findClass_of_methodNamed B.named
  have hin : meth.name = "<init>" := (name_of_methodNamed B.named B.method).1.trans hyn
  have hlk := B.notSynchronized
  subst hsz
  have hl := lv_entry av (n := nL) hlen
  rw [hlv] at hl
  rw [lg_entry_eq]
  exact k (p, e, s, m, av.toArray, below, meth, c) (va_A w s.heap.size) (MQ below (QI E Qr (va_A w s.heap.size)) av.toArray s mc ms (va_A w s.heap.size)) ⟨B.exec, B.bytes, hml, hown, hts, hK, hamb, fun q h => Or.inr h⟩ hnw hin
    (fun w' pc lv hQ hdg H locs ls hP hD hS hl => W.vret B.exec B.bytes B.returns (fun t ht hW => ⟨⟨w', rfl, hQ, by rw [ht]; exact hP, hD⟩, hS.F ht⟩) hS.2.2 hdg hlk) s.heap [] _ hP hD0.self va_S.rf hl
theorem va_nd_of : ∀ {l : List Nat}, l.Nodup → va_nd l = true
  | [], _ => rfl
  | a :: l, h => by
    rw [va_nd, Bool.and_eq_true, decide_eq_true_eq]
    exact ⟨(List.nodup_cons.mp h).1, va_nd_of (List.nodup_cons.mp h).2⟩
theorem pi_blind {E : EN} {w : va_W} {sz : Nat} {av : List Value} : FrameBlind (va_Pc av (PI E w sz)) := fun a U g mk q => by
  obtain ⟨q0, ⟨q1, qP, qK, qD, qa⟩, qn⟩ := q
  exact ⟨q0, ⟨q1, qP, va_K.moved (u := U) (U := U.calling g mk a) (Vm.Alike.refl U.vm) qK, qD, amb.same (u := U) (U := U.calling g mk a) rfl qa⟩, nwOK.same (u := U) (U := U.calling g mk a) rfl qn⟩
section CID
variable {p : Program} {l : Launch} {e : Env} {R : Room} {s : State} {m : MethodId} {args : Array Value} {below : List Frame} {meth : Method} {c : Code} {H : Heap} {locs : List Loc} {cells slots : Nat} {Q : State → Prop}
variable {pc : Nat} {ls : Array Slot} {rest st0 : List Value} {a : Array Value} {A0 A1 : Nat → Prop} {H0 : Heap} {mc ms : Nat} {free : Addr → Prop}
theorem va_callJ {E : EN} {Qr : va_W → Prop} (hr : va_Run p l e R s m args below meth c H locs cells slots mc ms (F0 m pc ls st0) rest (QI E Qr A1 a) free) (hS : va_S A0 H0 H locs) (hA : ∀ q, q < H.size → A1 q → A0 q) (hf : ∀ q, free q → A0 q)
    (kk : ∀ (w' : va_W) (H1 : Heap) (locs1 : List Loc), Qr w' → va_P E.1.1 vwCl w' H1 → va_D A1 w' → (∀ q : Nat, q < H.size → ¬ A1 q → H1[q]? = H[q]?) → va_S A0 H0 H1 locs1 → W p l e R s m args below meth c H1 locs1 (cells + mc) (slots + ms) Q (F0 m (pc + 3) ls rest)) : W p l e R s m args below meth c H locs cells slots Q (F0 m pc ls st0) := by
  intro T hT X
  obtain ⟨v, st₀, t, T', L, h0, X', hL, e1, e2, ⟨⟨w', hv, hp, hb, hd⟩, hz, hk⟩, st⟩ := hr T hT X
  cases hv
  rw [h0] at hz hk
  obtain ⟨t2, a1, b1⟩ := kk w' T'.heap (locs ++ L) hp (by rw [e1]; exact hb) hd (fun q h1 h2 => by rw [e1]; exact hk q h1 h2)
    ⟨Nat.le_trans hS.1 (by rw [e1]; exact hz), fun q h1 h2 => by rw [e1, hk q (Nat.lt_of_lt_of_le h1 hS.1) (fun z => h2 (hA q (Nat.lt_of_lt_of_le h1 hS.1) z))]; exact hS.2.1 q h1 h2, fun q hq => by
      rcases List.mem_append.mp hq with h | h
      · exact hS.2.2 q h
      · exact hf _ (hL q h)⟩ T' rfl X'
  exact ⟨t2, st t2 a1, b1⟩
end CID
theorem wr_last (wr : va_W) (c : Nat × va_E) : [wr.length].map (fun i => (wr ++ [c])[i]?) = [c].map some := by simp
theorem wr_rest (wr : va_W) (c : Nat × va_E) : (List.range wr.length).map (fun i => (wr ++ [c])[i]?) = wr.map some := by
  apply List.ext_getElem?
  intro k
  by_cases hk : k < wr.length
  · rw [List.getElem?_map, List.getElem?_range hk, List.getElem?_map]
    simp [List.getElem?_append_left hk, hk]
  · rw [List.getElem?_eq_none (by simp; omega), List.getElem?_eq_none (by simp; omega)]
theorem x_callJ {E : EN} {X : XT} {kn kn' : Nat × Nat} {wr : va_W} {pc q : Nat} {lv : List (Nat × Value)} (C : CX E X) (hnw : nwOK X.1.2.2.1) {index nL n d' mc ms a ci : Nat} {y : MethodName} {b : ByteArray} {fs As rest st0 : List Value} {Qr : va_W → Prop} {host : String}
    (h1 : Cond.methodLink X.2.1.1 index y ∈ TB ∨ va_Nw (.methodLinkNest X.2.1.1 index y host) X.1.2.2.1) (h2 : Cond.instanceMethod y ∈ TB) (h4 : Cond.initialized y.cls ∈ TB) (h5 : Cond.code y b nL none ∈ TB) (hyn : y.name = "<init>") (hd : y.cls ≠ "java/lang/invoke/MethodHandle" ∧ y.cls ≠ "java/lang/invoke/VarHandle" ∧ (parseMethodDescriptor y.desc).map (fun d => d.parameters.length) = some n) (hnL : nL ≤ 45)
    (hM : CI E y b nL d' mc ms (.ref a :: As) [(a, .inr (ci, fs))] Qr) (hd1 : d' + 1 ≤ X.2.2.1.frames) (hd2 : 64 * (d' + 1) ≤ X.2.2.1.locals) (hk1 : kn.1 + mc ≤ X.2.2.1.cells) (hk2 : kn.2 + ms ≤ X.2.2.1.slots) (hkn : (kn.1 + mc, kn.2 + ms) = kn') (hlen : As.length = n) (hst : st0 = As.reverse ++ .ref a :: rest) (hroom : (rest.map fun v => v.category).sum ≤ 8) (hdg : decode X.2.1.2.1 pc = .ok (.invokespecial index, 3)) (hq : pc + 3 = q)
    (kk : ∀ w' : va_W, Qr w' → GW E X kn' (wr ++ w') q lv rest) : GW E X kn (wr ++ [(a, .inr (ci, fs))]) pc lv st0 := by
  subst hq
  subst hkn
  intro H locs ls hP hD hS hl
  have C1 := C
  obtain ⟨hx, hb, hml, ho, hts, hK, ha, hA⟩ := C1
  have hC := wr_last wr (a, .inr (ci, fs))
  have hFc := va_free hD hS hA [wr.length] hC
  have hRm : (rmI d' mc ms).frames + 1 ≤ X.2.2.1.frames ∧ 8 + (nL + 11) + (rmI d' mc ms).locals ≤ X.2.2.1.locals := ⟨hd1, by show 8 + (nL + 11) + 64 * d' ≤ _; omega⟩
  have hpre : PreS X.1.2.2.1 H (va_Pc (.ref a :: As) (PI E [(a, .inr (ci, fs))] H.size)) (.ref a :: As) := ⟨pi_blind, fun U hU hW => by
    obtain ⟨z1, z2⟩ := pc_at (av := .ref a :: As) hK ha hA hP hD hS [wr.length] rfl hC hU hW
    exact ⟨z1, z2, nwOK.moved hW hnw⟩⟩
  have hkk : ∀ (w' : va_W) (H1 : Heap) (locs1 : List Loc), Qr w' → va_P E.1.1 vwCl w' H1 → va_D (va_A [(a, .inr (ci, fs))] H.size) w' → (∀ q : Nat, q < H.size → ¬ va_A [(a, .inr (ci, fs))] H.size q → H1[q]? = H[q]?) → va_S X.2.2.2.1 X.1.2.2.1.heap H1 locs1 → W X.1.1 E.1.2 X.1.2.1 X.2.2.1 X.1.2.2.1 X.1.2.2.2.1 X.1.2.2.2.2.1 X.1.2.2.2.2.2.1 X.1.2.2.2.2.2.2.1 X.1.2.2.2.2.2.2.2 H1 locs1 (kn.1 + mc) (kn.2 + ms) X.2.2.2.2 (F0 X.1.2.2.2.1 (pc + 3) ls rest) := fun w' H1 locs1 hQ hP1 hD1 hk hS1 => by
    obtain ⟨hP2, hD2⟩ := va_join hP hD [wr.length] (List.range wr.length) hC (wr_rest wr _) (va_nd_of List.nodup_range) (fun i hi hj => by
      have := List.mem_range.mp hi
      simp at hj
      omega) hk hFc hP1 hD1
    exact kk w' hQ H1 locs1 ls hP2 hD2 hS1 hl
  rcases h1 with h1 | h1
  · exact va_callJ (va_runI (As := As) (rest := rest) ⟨hx, hb, hml, ho, hts⟩ (hM H.size) (cwI n hts (gi_C h5) rfl rfl rfl (hts _ h4) (hts _ h1) (hts _ h2) hyn hd hRm) hpre rfl hlen hl.1 hst (lv_room hroom) hdg ⟨hk1, hk2⟩) hS (fun q _ h => hFc q h) hFc hkk
  · exact va_callJ (va_runIN (As := As) (rest := rest) ⟨hx, hb, hml, ho, hts⟩ (hM H.size) ⟨va_cnB n hts (gi_C h5) rfl rfl rfl h1 (hts _ h4) hd hRm, hyn, hts _ h2⟩ hpre rfl hlen hl.1 hst (lv_room hroom) hdg ⟨hk1, hk2⟩) hS (fun q _ h => hFc q h) hFc hkk
