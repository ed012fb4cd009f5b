theorem g_iconst {E : EN} {M : MF} {ws : va_W} {pc : Nat} {lv : List (Nat × Value)} {st : List Value} {n : Int} {v : Int32} {q : Nat} (hdg : decode M.1.2.1 pc = .ok (.iconst n, 1)) (hq : pc + 1 = q) (hv : Int32.ofInt n = v) (k : G E M ws q lv (.int v :: st)) : G E M ws pc lv (st) := by
  subst hq
  exact fun p e s m args below meth c C H locs ls hP hD hS hl => lv_iconst C.1 C.2.1 hdg hv (k p e s m args below meth c C H locs ls hP hD hS hl)
theorem g_bipush {E : EN} {M : MF} {ws : va_W} {pc : Nat} {lv : List (Nat × Value)} {st : List Value} {n : Int} {v : Int32} {q : Nat} (hdg : decode M.1.2.1 pc = .ok (.bipush n, 2)) (hq : pc + 2 = q) (hv : (Int8.ofInt n).toInt32 = v) (k : G E M ws q lv (.int v :: st)) : G E M ws pc lv (st) := by
  subst hq
  exact fun p e s m args below meth c C H locs ls hP hD hS hl => lv_bipush C.1 C.2.1 hdg hv (k p e s m args below meth c C H locs ls hP hD hS hl)
theorem g_sipush {E : EN} {M : MF} {ws : va_W} {pc : Nat} {lv : List (Nat × Value)} {st : List Value} {n : Int} {v : Int32} {q : Nat} (hdg : decode M.1.2.1 pc = .ok (.sipush n, 3)) (hq : pc + 3 = q) (hv : (Int16.ofInt n).toInt32 = v) (k : G E M ws q lv (.int v :: st)) : G E M ws pc lv (st) := by
  subst hq
  exact fun p e s m args below meth c C H locs ls hP hD hS hl => lv_sipush C.1 C.2.1 hdg hv (k p e s m args below meth c C H locs ls hP hD hS hl)
theorem g_lconst {E : EN} {M : MF} {ws : va_W} {pc : Nat} {lv : List (Nat × Value)} {st : List Value} {n : Fin 2} {v : Int64} {q : Nat} (hdg : decode M.1.2.1 pc = .ok (.lconst n, 1)) (hq : pc + 1 = q) (hv : Int64.ofNat (n : Nat) = v) (k : G E M ws q lv (.long v :: st)) : G E M ws pc lv (st) := by
  subst hq
  exact fun p e s m args below meth c C H locs ls hP hD hS hl => lv_lconst C.1 C.2.1 hdg hv (k p e s m args below meth c C H locs ls hP hD hS hl)
theorem g_iload_n {E : EN} {M : MF} {ws : va_W} {pc : Nat} {lv : List (Nat × Value)} {st : List Value} {n : Fin 4} {i : Nat} {x : Int32} {q : Nat} (hdg : decode M.1.2.1 pc = .ok (.iload_n n, 1)) (hq : pc + 1 = q) (hi : (n : Nat) = i) (hg : lget lv i = some (.int x)) (k : G E M ws q lv (.int x :: st)) : G E M ws pc lv (st) := by
  subst hq
  exact fun p e s m args below meth c C H locs ls hP hD hS hl => lv_iload_n C.1 C.2.1 hdg hi (lget_has hl hg) (k p e s m args below meth c C H locs ls hP hD hS hl)
theorem g_iload {E : EN} {M : MF} {ws : va_W} {pc : Nat} {lv : List (Nat × Value)} {st : List Value} {i : Nat} {x : Int32} {q : Nat} (hdg : decode M.1.2.1 pc = .ok (.iload i, 2)) (hq : pc + 2 = q) (hg : lget lv i = some (.int x)) (k : G E M ws q lv (.int x :: st)) : G E M ws pc lv (st) := by
  subst hq
  exact fun p e s m args below meth c C H locs ls hP hD hS hl => lv_iload C.1 C.2.1 hdg (lget_has hl hg) (k p e s m args below meth c C H locs ls hP hD hS hl)
theorem g_lload_n {E : EN} {M : MF} {ws : va_W} {pc : Nat} {lv : List (Nat × Value)} {st : List Value} {n : Fin 4} {i : Nat} {x : Int64} {q : Nat} (hdg : decode M.1.2.1 pc = .ok (.lload_n n, 1)) (hq : pc + 1 = q) (hi : (n : Nat) = i) (hg : lget lv i = some (.long x)) (k : G E M ws q lv (.long x :: st)) : G E M ws pc lv (st) := by
  subst hq
  exact fun p e s m args below meth c C H locs ls hP hD hS hl => lv_lload_n C.1 C.2.1 hdg hi (lget_has hl hg) (k p e s m args below meth c C H locs ls hP hD hS hl)
theorem g_lload {E : EN} {M : MF} {ws : va_W} {pc : Nat} {lv : List (Nat × Value)} {st : List Value} {i : Nat} {x : Int64} {q : Nat} (hdg : decode M.1.2.1 pc = .ok (.lload i, 2)) (hq : pc + 2 = q) (hg : lget lv i = some (.long x)) (k : G E M ws q lv (.long x :: st)) : G E M ws pc lv (st) := by
  subst hq
  exact fun p e s m args below meth c C H locs ls hP hD hS hl => lv_lload C.1 C.2.1 hdg (lget_has hl hg) (k p e s m args below meth c C H locs ls hP hD hS hl)
theorem g_aload_n {E : EN} {M : MF} {ws : va_W} {pc : Nat} {lv : List (Nat × Value)} {st : List Value} {n : Fin 4} {i : Nat} {x : Nat} {q : Nat} (hdg : decode M.1.2.1 pc = .ok (.aload_n n, 1)) (hq : pc + 1 = q) (hi : (n : Nat) = i) (hg : lget lv i = some (.ref x)) (k : G E M ws q lv (.ref x :: st)) : G E M ws pc lv (st) := by
  subst hq
  exact fun p e s m args below meth c C H locs ls hP hD hS hl => lv_aload_n C.1 C.2.1 hdg hi (lget_has hl hg) (k p e s m args below meth c C H locs ls hP hD hS hl)
theorem g_aload {E : EN} {M : MF} {ws : va_W} {pc : Nat} {lv : List (Nat × Value)} {st : List Value} {i : Nat} {x : Nat} {q : Nat} (hdg : decode M.1.2.1 pc = .ok (.aload i, 2)) (hq : pc + 2 = q) (hg : lget lv i = some (.ref x)) (k : G E M ws q lv (.ref x :: st)) : G E M ws pc lv (st) := by
  subst hq
  exact fun p e s m args below meth c C H locs ls hP hD hS hl => lv_aload C.1 C.2.1 hdg (lget_has hl hg) (k p e s m args below meth c C H locs ls hP hD hS hl)
theorem g_istore_n {E : EN} {M : MF} {ws : va_W} {pc : Nat} {lv : List (Nat × Value)} {st : List Value} {n : Fin 4} {i : Nat} {lv' : List (Nat × Value)} {q : Nat} {x : Int32} (hdg : decode M.1.2.1 pc = .ok (.istore_n n, 1)) (hq : pc + 1 = q) (hi : (n : Nat) = i) (hn : i < M.1.2.2) (hv : lset lv i (.int x) = lv') (k : G E M ws q lv' st) : G E M ws pc lv (.int x :: st) := by
  subst hq
  subst hv
  exact fun p e s m args below meth c C H locs ls hP hD hS hl => lv_istore_n C.1 C.2.1 hdg hi hl hn rfl (fun ls' hl' => k p e s m args below meth c C H locs ls' hP hD hS (lset_has hl'))
theorem g_istore {E : EN} {M : MF} {ws : va_W} {pc : Nat} {lv : List (Nat × Value)} {st : List Value} {i : Nat} {lv' : List (Nat × Value)} {q : Nat} {x : Int32} (hdg : decode M.1.2.1 pc = .ok (.istore i, 2)) (hq : pc + 2 = q) (hn : i < M.1.2.2) (hv : lset lv i (.int x) = lv') (k : G E M ws q lv' st) : G E M ws pc lv (.int x :: st) := by
  subst hq
  subst hv
  exact fun p e s m args below meth c C H locs ls hP hD hS hl => lv_istore C.1 C.2.1 hdg hl hn rfl (fun ls' hl' => k p e s m args below meth c C H locs ls' hP hD hS (lset_has hl'))
theorem g_astore_n {E : EN} {M : MF} {ws : va_W} {pc : Nat} {lv : List (Nat × Value)} {st : List Value} {n : Fin 4} {i : Nat} {lv' : List (Nat × Value)} {q : Nat} {x : Nat} (hdg : decode M.1.2.1 pc = .ok (.astore_n n, 1)) (hq : pc + 1 = q) (hi : (n : Nat) = i) (hn : i < M.1.2.2) (hv : lset lv i (.ref x) = lv') (k : G E M ws q lv' st) : G E M ws pc lv (.ref x :: st) := by
  subst hq
  subst hv
  exact fun p e s m args below meth c C H locs ls hP hD hS hl => lv_astore_n C.1 C.2.1 hdg hi hl hn rfl (fun ls' hl' => k p e s m args below meth c C H locs ls' hP hD hS (lset_has hl'))
theorem g_astore {E : EN} {M : MF} {ws : va_W} {pc : Nat} {lv : List (Nat × Value)} {st : List Value} {i : Nat} {lv' : List (Nat × Value)} {q : Nat} {x : Nat} (hdg : decode M.1.2.1 pc = .ok (.astore i, 2)) (hq : pc + 2 = q) (hn : i < M.1.2.2) (hv : lset lv i (.ref x) = lv') (k : G E M ws q lv' st) : G E M ws pc lv (.ref x :: st) := by
  subst hq
  subst hv
  exact fun p e s m args below meth c C H locs ls hP hD hS hl => lv_astore C.1 C.2.1 hdg hl hn rfl (fun ls' hl' => k p e s m args below meth c C H locs ls' hP hD hS (lset_has hl'))
theorem g_iinc {E : EN} {M : MF} {ws : va_W} {pc : Nat} {lv : List (Nat × Value)} {st : List Value} {n : Int} {i : Nat} {lv' : List (Nat × Value)} {q : Nat} {x v : Int32} (hdg : decode M.1.2.1 pc = .ok (.iinc i n, 3)) (hq : pc + 3 = q) (hg : lget lv i = some (.int x)) (hx : x + Int32.ofInt n = v) (hn : i < M.1.2.2) (hv : lset lv i (.int v) = lv') (k : G E M ws q lv' st) : G E M ws pc lv st := by
  subst hq
  subst hv
  intro p e s m args below meth c C H locs ls hP hD hS hl
  obtain ⟨j, hj⟩ := List.mem_iff_getElem?.mp (lget_mem hg)
  exact lv_iinc C.1 C.2.1 hdg hl (k := j) hj hx hn rfl (fun ls' hl' => k p e s m args below meth c C H locs ls' hP hD hS (lset_has hl'))
theorem g_iadd {E : EN} {M : MF} {ws : va_W} {pc : Nat} {lv : List (Nat × Value)} {st : List Value} {x y : Int32} {q : Nat} (hdg : decode M.1.2.1 pc = .ok (.iadd, 1)) (hq : pc + 1 = q) (k : G E M ws q lv (.int (x + y) :: st)) : G E M ws pc lv (.int y :: .int x :: st) := by
  subst hq
  exact fun p e s m args below meth c C H locs ls hP hD hS hl => lv_iadd C.1 C.2.1 hdg (k p e s m args below meth c C H locs ls hP hD hS hl)
theorem g_isub {E : EN} {M : MF} {ws : va_W} {pc : Nat} {lv : List (Nat × Value)} {st : List Value} {x y : Int32} {q : Nat} (hdg : decode M.1.2.1 pc = .ok (.isub, 1)) (hq : pc + 1 = q) (k : G E M ws q lv (.int (x - y) :: st)) : G E M ws pc lv (.int y :: .int x :: st) := by
  subst hq
  exact fun p e s m args below meth c C H locs ls hP hD hS hl => lv_isub C.1 C.2.1 hdg (k p e s m args below meth c C H locs ls hP hD hS hl)
theorem g_imul {E : EN} {M : MF} {ws : va_W} {pc : Nat} {lv : List (Nat × Value)} {st : List Value} {x y : Int32} {q : Nat} (hdg : decode M.1.2.1 pc = .ok (.imul, 1)) (hq : pc + 1 = q) (k : G E M ws q lv (.int (x * y) :: st)) : G E M ws pc lv (.int y :: .int x :: st) := by
  subst hq
  exact fun p e s m args below meth c C H locs ls hP hD hS hl => lv_imul C.1 C.2.1 hdg (k p e s m args below meth c C H locs ls hP hD hS hl)
theorem g_iand {E : EN} {M : MF} {ws : va_W} {pc : Nat} {lv : List (Nat × Value)} {st : List Value} {x y : Int32} {q : Nat} (hdg : decode M.1.2.1 pc = .ok (.iand, 1)) (hq : pc + 1 = q) (k : G E M ws q lv (.int (x &&& y) :: st)) : G E M ws pc lv (.int y :: .int x :: st) := by
  subst hq
  exact fun p e s m args below meth c C H locs ls hP hD hS hl => lv_iand C.1 C.2.1 hdg (k p e s m args below meth c C H locs ls hP hD hS hl)
theorem g_ior {E : EN} {M : MF} {ws : va_W} {pc : Nat} {lv : List (Nat × Value)} {st : List Value} {x y : Int32} {q : Nat} (hdg : decode M.1.2.1 pc = .ok (.ior, 1)) (hq : pc + 1 = q) (k : G E M ws q lv (.int (x ||| y) :: st)) : G E M ws pc lv (.int y :: .int x :: st) := by
  subst hq
  exact fun p e s m args below meth c C H locs ls hP hD hS hl => lv_ior C.1 C.2.1 hdg (k p e s m args below meth c C H locs ls hP hD hS hl)
theorem g_ixor {E : EN} {M : MF} {ws : va_W} {pc : Nat} {lv : List (Nat × Value)} {st : List Value} {x y : Int32} {q : Nat} (hdg : decode M.1.2.1 pc = .ok (.ixor, 1)) (hq : pc + 1 = q) (k : G E M ws q lv (.int (x ^^^ y) :: st)) : G E M ws pc lv (.int y :: .int x :: st) := by
  subst hq
  exact fun p e s m args below meth c C H locs ls hP hD hS hl => lv_ixor C.1 C.2.1 hdg (k p e s m args below meth c C H locs ls hP hD hS hl)
theorem g_ishl {E : EN} {M : MF} {ws : va_W} {pc : Nat} {lv : List (Nat × Value)} {st : List Value} {x y : Int32} {q : Nat} (hdg : decode M.1.2.1 pc = .ok (.ishl, 1)) (hq : pc + 1 = q) (k : G E M ws q lv (.int (x <<< (y &&& 31)) :: st)) : G E M ws pc lv (.int y :: .int x :: st) := by
  subst hq
  exact fun p e s m args below meth c C H locs ls hP hD hS hl => lv_ishl C.1 C.2.1 hdg (k p e s m args below meth c C H locs ls hP hD hS hl)
theorem g_ishr {E : EN} {M : MF} {ws : va_W} {pc : Nat} {lv : List (Nat × Value)} {st : List Value} {x y : Int32} {q : Nat} (hdg : decode M.1.2.1 pc = .ok (.ishr, 1)) (hq : pc + 1 = q) (k : G E M ws q lv (.int (x >>> (y &&& 31)) :: st)) : G E M ws pc lv (.int y :: .int x :: st) := by
  subst hq
  exact fun p e s m args below meth c C H locs ls hP hD hS hl => lv_ishr C.1 C.2.1 hdg (k p e s m args below meth c C H locs ls hP hD hS hl)
theorem g_iushr {E : EN} {M : MF} {ws : va_W} {pc : Nat} {lv : List (Nat × Value)} {st : List Value} {x y : Int32} {q : Nat} (hdg : decode M.1.2.1 pc = .ok (.iushr, 1)) (hq : pc + 1 = q) (k : G E M ws q lv (.int ((x.toUInt32 >>> (y.toUInt32 &&& Int32.toUInt32 31)).toInt32) :: st)) : G E M ws pc lv (.int y :: .int x :: st) := by
  subst hq
  exact fun p e s m args below meth c C H locs ls hP hD hS hl => lv_iushr C.1 C.2.1 hdg rfl (k p e s m args below meth c C H locs ls hP hD hS hl)
theorem g_idiv {E : EN} {M : MF} {ws : va_W} {pc : Nat} {lv : List (Nat × Value)} {st : List Value} {x y : Int32} {q : Nat} (hdg : decode M.1.2.1 pc = .ok (.idiv, 1)) (hq : pc + 1 = q) (hne : ¬ y = 0) (k : G E M ws q lv (.int (x / y) :: st)) : G E M ws pc lv (.int y :: .int x :: st) := by
  subst hq
  exact fun p e s m args below meth c C H locs ls hP hD hS hl => lv_idiv C.1 C.2.1 hdg hne (k p e s m args below meth c C H locs ls hP hD hS hl)
theorem g_irem {E : EN} {M : MF} {ws : va_W} {pc : Nat} {lv : List (Nat × Value)} {st : List Value} {x y : Int32} {q : Nat} (hdg : decode M.1.2.1 pc = .ok (.irem, 1)) (hq : pc + 1 = q) (hne : ¬ y = 0) (k : G E M ws q lv (.int (x - x / y * y) :: st)) : G E M ws pc lv (.int y :: .int x :: st) := by
  subst hq
  exact fun p e s m args below meth c C H locs ls hP hD hS hl => lv_irem C.1 C.2.1 hdg hne (k p e s m args below meth c C H locs ls hP hD hS hl)
theorem g_ineg {E : EN} {M : MF} {ws : va_W} {pc : Nat} {lv : List (Nat × Value)} {st : List Value} {x : Int32} {q : Nat} (hdg : decode M.1.2.1 pc = .ok (.ineg, 1)) (hq : pc + 1 = q) (k : G E M ws q lv (.int (-x) :: st)) : G E M ws pc lv (.int x :: st) := by
  subst hq
  exact fun p e s m args below meth c C H locs ls hP hD hS hl => lv_ineg C.1 C.2.1 hdg (k p e s m args below meth c C H locs ls hP hD hS hl)
theorem g_ladd {E : EN} {M : MF} {ws : va_W} {pc : Nat} {lv : List (Nat × Value)} {st : List Value} {x y : Int64} {q : Nat} (hdg : decode M.1.2.1 pc = .ok (.ladd, 1)) (hq : pc + 1 = q) (k : G E M ws q lv (.long (x + y) :: st)) : G E M ws pc lv (.long y :: .long x :: st) := by
  subst hq
  exact fun p e s m args below meth c C H locs ls hP hD hS hl => lv_ladd C.1 C.2.1 hdg (k p e s m args below meth c C H locs ls hP hD hS hl)
theorem g_lsub {E : EN} {M : MF} {ws : va_W} {pc : Nat} {lv : List (Nat × Value)} {st : List Value} {x y : Int64} {q : Nat} (hdg : decode M.1.2.1 pc = .ok (.lsub, 1)) (hq : pc + 1 = q) (k : G E M ws q lv (.long (x - y) :: st)) : G E M ws pc lv (.long y :: .long x :: st) := by
  subst hq
  exact fun p e s m args below meth c C H locs ls hP hD hS hl => lv_lsub C.1 C.2.1 hdg (k p e s m args below meth c C H locs ls hP hD hS hl)
theorem g_lmul {E : EN} {M : MF} {ws : va_W} {pc : Nat} {lv : List (Nat × Value)} {st : List Value} {x y : Int64} {q : Nat} (hdg : decode M.1.2.1 pc = .ok (.lmul, 1)) (hq : pc + 1 = q) (k : G E M ws q lv (.long (x * y) :: st)) : G E M ws pc lv (.long y :: .long x :: st) := by
  subst hq
  exact fun p e s m args below meth c C H locs ls hP hD hS hl => lv_lmul C.1 C.2.1 hdg (k p e s m args below meth c C H locs ls hP hD hS hl)
theorem g_land {E : EN} {M : MF} {ws : va_W} {pc : Nat} {lv : List (Nat × Value)} {st : List Value} {x y : Int64} {q : Nat} (hdg : decode M.1.2.1 pc = .ok (.land, 1)) (hq : pc + 1 = q) (k : G E M ws q lv (.long (x &&& y) :: st)) : G E M ws pc lv (.long y :: .long x :: st) := by
  subst hq
  exact fun p e s m args below meth c C H locs ls hP hD hS hl => lv_land C.1 C.2.1 hdg (k p e s m args below meth c C H locs ls hP hD hS hl)
theorem g_lor {E : EN} {M : MF} {ws : va_W} {pc : Nat} {lv : List (Nat × Value)} {st : List Value} {x y : Int64} {q : Nat} (hdg : decode M.1.2.1 pc = .ok (.lor, 1)) (hq : pc + 1 = q) (k : G E M ws q lv (.long (x ||| y) :: st)) : G E M ws pc lv (.long y :: .long x :: st) := by
  subst hq
  exact fun p e s m args below meth c C H locs ls hP hD hS hl => lv_lor C.1 C.2.1 hdg (k p e s m args below meth c C H locs ls hP hD hS hl)
theorem g_lcmp {E : EN} {M : MF} {ws : va_W} {pc : Nat} {lv : List (Nat × Value)} {st : List Value} {x y : Int64} {q : Nat} (hdg : decode M.1.2.1 pc = .ok (.lcmp, 1)) (hq : pc + 1 = q) (k : G E M ws q lv (.int (lg_cmp x y) :: st)) : G E M ws pc lv (.long y :: .long x :: st) := by
  subst hq
  exact fun p e s m args below meth c C H locs ls hP hD hS hl => W.lcmp C.1 C.2.1 hdg (k p e s m args below meth c C H locs ls hP hD hS hl)
theorem g_lshl {E : EN} {M : MF} {ws : va_W} {pc : Nat} {lv : List (Nat × Value)} {st : List Value} {x : Int64} {y : Int32} {q : Nat} (hdg : decode M.1.2.1 pc = .ok (.lshl, 1)) (hq : pc + 1 = q) (k : G E M ws q lv (.long (x <<< (y.toInt64 &&& 63)) :: st)) : G E M ws pc lv (.int y :: .long x :: st) := by
  subst hq
  exact fun p e s m args below meth c C H locs ls hP hD hS hl => lv_lshl C.1 C.2.1 hdg rfl (k p e s m args below meth c C H locs ls hP hD hS hl)
theorem g_lshr {E : EN} {M : MF} {ws : va_W} {pc : Nat} {lv : List (Nat × Value)} {st : List Value} {x : Int64} {y : Int32} {q : Nat} (hdg : decode M.1.2.1 pc = .ok (.lshr, 1)) (hq : pc + 1 = q) (k : G E M ws q lv (.long (x >>> (y.toInt64 &&& 63)) :: st)) : G E M ws pc lv (.int y :: .long x :: st) := by
  subst hq
  exact fun p e s m args below meth c C H locs ls hP hD hS hl => lv_lshr C.1 C.2.1 hdg rfl (k p e s m args below meth c C H locs ls hP hD hS hl)
theorem g_i2l {E : EN} {M : MF} {ws : va_W} {pc : Nat} {lv : List (Nat × Value)} {st : List Value} {x : Int32} {q : Nat} (hdg : decode M.1.2.1 pc = .ok (.i2l, 1)) (hq : pc + 1 = q) (k : G E M ws q lv (.long x.toInt64 :: st)) : G E M ws pc lv (.int x :: st) := by
  subst hq
  exact fun p e s m args below meth c C H locs ls hP hD hS hl => lv_i2l C.1 C.2.1 hdg rfl (k p e s m args below meth c C H locs ls hP hD hS hl)
theorem g_l2i {E : EN} {M : MF} {ws : va_W} {pc : Nat} {lv : List (Nat × Value)} {st : List Value} {x : Int64} {q : Nat} (hdg : decode M.1.2.1 pc = .ok (.l2i, 1)) (hq : pc + 1 = q) (k : G E M ws q lv (.int x.toInt32 :: st)) : G E M ws pc lv (.long x :: st) := by
  subst hq
  exact fun p e s m args below meth c C H locs ls hP hD hS hl => lv_l2i C.1 C.2.1 hdg rfl (k p e s m args below meth c C H locs ls hP hD hS hl)
theorem g_i2b {E : EN} {M : MF} {ws : va_W} {pc : Nat} {lv : List (Nat × Value)} {st : List Value} {x : Int32} {q : Nat} (hdg : decode M.1.2.1 pc = .ok (.i2b, 1)) (hq : pc + 1 = q) (k : G E M ws q lv (.int x.toInt8.toInt32 :: st)) : G E M ws pc lv (.int x :: st) := by
  subst hq
  exact fun p e s m args below meth c C H locs ls hP hD hS hl => lv_i2b C.1 C.2.1 hdg rfl (k p e s m args below meth c C H locs ls hP hD hS hl)
theorem g_i2c {E : EN} {M : MF} {ws : va_W} {pc : Nat} {lv : List (Nat × Value)} {st : List Value} {x : Int32} {q : Nat} (hdg : decode M.1.2.1 pc = .ok (.i2c, 1)) (hq : pc + 1 = q) (k : G E M ws q lv (.int (x.toUInt32 % 65536).toInt32 :: st)) : G E M ws pc lv (.int x :: st) := by
  subst hq
  exact fun p e s m args below meth c C H locs ls hP hD hS hl => lv_i2c C.1 C.2.1 hdg rfl (k p e s m args below meth c C H locs ls hP hD hS hl)
theorem g_dup {E : EN} {M : MF} {ws : va_W} {pc : Nat} {lv : List (Nat × Value)} {st : List Value} {v : Value} {q : Nat} (hdg : decode M.1.2.1 pc = .ok (.dup, 1)) (hq : pc + 1 = q) (hc : v.category = 1) (k : G E M ws q lv (v :: v :: st)) : G E M ws pc lv (v :: st) := by
  subst hq
  exact fun p e s m args below meth c C H locs ls hP hD hS hl => lv_dup C.1 C.2.1 hdg hc (k p e s m args below meth c C H locs ls hP hD hS hl)
theorem g_pop {E : EN} {M : MF} {ws : va_W} {pc : Nat} {lv : List (Nat × Value)} {st : List Value} {v : Value} {q : Nat} (hdg : decode M.1.2.1 pc = .ok (.pop, 1)) (hq : pc + 1 = q) (hc : v.category = 1) (k : G E M ws q lv (st)) : G E M ws pc lv (v :: st) := by
  subst hq
  exact fun p e s m args below meth c C H locs ls hP hD hS hl => lv_pop C.1 C.2.1 hdg hc (k p e s m args below meth c C H locs ls hP hD hS hl)
theorem g_dup2 {E : EN} {M : MF} {ws : va_W} {pc : Nat} {lv : List (Nat × Value)} {st : List Value} {u v : Value} {q : Nat} (hdg : decode M.1.2.1 pc = .ok (.dup2, 1)) (hq : pc + 1 = q) (hc : u.category = 1) (hd : v.category = 1) (k : G E M ws q lv (u :: v :: u :: v :: st)) : G E M ws pc lv (u :: v :: st) := by
  subst hq
  exact fun p e s m args below meth c C H locs ls hP hD hS hl => lv_dup2_11 C.1 C.2.1 hdg hc hd (k p e s m args below meth c C H locs ls hP hD hS hl)
theorem g_goto {E : EN} {M : MF} {ws : va_W} {pc : Nat} {lv : List (Nat × Value)} {st : List Value} {off : Int} {q : Nat} (hdg : decode M.1.2.1 pc = .ok (.goto off, 3)) (hq : (pc : Int) + off = (q : Int)) (k : G E M ws q lv st) : G E M ws pc lv st := fun p e s m args below meth c C H locs ls hP hD hS hl => lv_goto C.1 C.2.1 hdg hq (k p e s m args below meth c C H locs ls hP hD hS hl)
theorem g_if_eq {E : EN} {M : MF} {ws : va_W} {pc : Nat} {lv : List (Nat × Value)} {st : List Value} {x : Int32} {off : Int} {q t : Nat} (hdg : decode M.1.2.1 pc = .ok (.ifCond .eq off, 3)) (ht : (pc : Int) + off = (t : Int)) (hq : pc + 3 = q) (kt : x = 0 → G E M ws t lv st) (kf : ¬ x = 0 → G E M ws q lv st) : G E M ws pc lv (.int x :: st) := by
  subst hq
  exact fun p e s m args below meth c C H locs ls hP hD hS hl => lv_if_eq C.1 C.2.1 hdg ht (fun h => kt h p e s m args below meth c C H locs ls hP hD hS hl) (fun h => kf h p e s m args below meth c C H locs ls hP hD hS hl)
theorem g_icmp_eq {E : EN} {M : MF} {ws : va_W} {pc : Nat} {lv : List (Nat × Value)} {st : List Value} {x y : Int32} {off : Int} {q t : Nat} (hdg : decode M.1.2.1 pc = .ok (.if_icmp .eq off, 3)) (ht : (pc : Int) + off = (t : Int)) (hq : pc + 3 = q) (kt : x = y → G E M ws t lv st) (kf : ¬ x = y → G E M ws q lv st) : G E M ws pc lv (.int y :: .int x :: st) := by
  subst hq
  exact fun p e s m args below meth c C H locs ls hP hD hS hl => lv_icmp_eq C.1 C.2.1 hdg ht (fun h => kt h p e s m args below meth c C H locs ls hP hD hS hl) (fun h => kf h p e s m args below meth c C H locs ls hP hD hS hl)
theorem g_if_ne {E : EN} {M : MF} {ws : va_W} {pc : Nat} {lv : List (Nat × Value)} {st : List Value} {x : Int32} {off : Int} {q t : Nat} (hdg : decode M.1.2.1 pc = .ok (.ifCond .ne off, 3)) (ht : (pc : Int) + off = (t : Int)) (hq : pc + 3 = q) (kt : ¬ x = 0 → G E M ws t lv st) (kf : x = 0 → G E M ws q lv st) : G E M ws pc lv (.int x :: st) := by
  subst hq
  exact fun p e s m args below meth c C H locs ls hP hD hS hl => lv_if_ne C.1 C.2.1 hdg ht (fun h => kt h p e s m args below meth c C H locs ls hP hD hS hl) (fun h => kf h p e s m args below meth c C H locs ls hP hD hS hl)
theorem g_icmp_ne {E : EN} {M : MF} {ws : va_W} {pc : Nat} {lv : List (Nat × Value)} {st : List Value} {x y : Int32} {off : Int} {q t : Nat} (hdg : decode M.1.2.1 pc = .ok (.if_icmp .ne off, 3)) (ht : (pc : Int) + off = (t : Int)) (hq : pc + 3 = q) (kt : ¬ x = y → G E M ws t lv st) (kf : x = y → G E M ws q lv st) : G E M ws pc lv (.int y :: .int x :: st) := by
  subst hq
  exact fun p e s m args below meth c C H locs ls hP hD hS hl => lv_icmp_ne C.1 C.2.1 hdg ht (fun h => kt h p e s m args below meth c C H locs ls hP hD hS hl) (fun h => kf h p e s m args below meth c C H locs ls hP hD hS hl)
theorem g_if_lt {E : EN} {M : MF} {ws : va_W} {pc : Nat} {lv : List (Nat × Value)} {st : List Value} {x : Int32} {off : Int} {q t : Nat} (hdg : decode M.1.2.1 pc = .ok (.ifCond .lt off, 3)) (ht : (pc : Int) + off = (t : Int)) (hq : pc + 3 = q) (kt : x < 0 → G E M ws t lv st) (kf : ¬ x < 0 → G E M ws q lv st) : G E M ws pc lv (.int x :: st) := by
  subst hq
  exact fun p e s m args below meth c C H locs ls hP hD hS hl => lv_if_lt C.1 C.2.1 hdg ht (fun h => kt h p e s m args below meth c C H locs ls hP hD hS hl) (fun h => kf h p e s m args below meth c C H locs ls hP hD hS hl)
theorem g_icmp_lt {E : EN} {M : MF} {ws : va_W} {pc : Nat} {lv : List (Nat × Value)} {st : List Value} {x y : Int32} {off : Int} {q t : Nat} (hdg : decode M.1.2.1 pc = .ok (.if_icmp .lt off, 3)) (ht : (pc : Int) + off = (t : Int)) (hq : pc + 3 = q) (kt : x < y → G E M ws t lv st) (kf : ¬ x < y → G E M ws q lv st) : G E M ws pc lv (.int y :: .int x :: st) := by
  subst hq
  exact fun p e s m args below meth c C H locs ls hP hD hS hl => lv_icmp_lt C.1 C.2.1 hdg ht (fun h => kt h p e s m args below meth c C H locs ls hP hD hS hl) (fun h => kf h p e s m args below meth c C H locs ls hP hD hS hl)
theorem g_if_ge {E : EN} {M : MF} {ws : va_W} {pc : Nat} {lv : List (Nat × Value)} {st : List Value} {x : Int32} {off : Int} {q t : Nat} (hdg : decode M.1.2.1 pc = .ok (.ifCond .ge off, 3)) (ht : (pc : Int) + off = (t : Int)) (hq : pc + 3 = q) (kt : 0 ≤ x → G E M ws t lv st) (kf : ¬ 0 ≤ x → G E M ws q lv st) : G E M ws pc lv (.int x :: st) := by
  subst hq
  exact fun p e s m args below meth c C H locs ls hP hD hS hl => lv_if_ge C.1 C.2.1 hdg ht (fun h => kt h p e s m args below meth c C H locs ls hP hD hS hl) (fun h => kf h p e s m args below meth c C H locs ls hP hD hS hl)
theorem g_icmp_ge {E : EN} {M : MF} {ws : va_W} {pc : Nat} {lv : List (Nat × Value)} {st : List Value} {x y : Int32} {off : Int} {q t : Nat} (hdg : decode M.1.2.1 pc = .ok (.if_icmp .ge off, 3)) (ht : (pc : Int) + off = (t : Int)) (hq : pc + 3 = q) (kt : y ≤ x → G E M ws t lv st) (kf : ¬ y ≤ x → G E M ws q lv st) : G E M ws pc lv (.int y :: .int x :: st) := by
  subst hq
  exact fun p e s m args below meth c C H locs ls hP hD hS hl => lv_icmp_ge C.1 C.2.1 hdg ht (fun h => kt h p e s m args below meth c C H locs ls hP hD hS hl) (fun h => kf h p e s m args below meth c C H locs ls hP hD hS hl)
theorem g_if_gt {E : EN} {M : MF} {ws : va_W} {pc : Nat} {lv : List (Nat × Value)} {st : List Value} {x : Int32} {off : Int} {q t : Nat} (hdg : decode M.1.2.1 pc = .ok (.ifCond .gt off, 3)) (ht : (pc : Int) + off = (t : Int)) (hq : pc + 3 = q) (kt : 0 < x → G E M ws t lv st) (kf : ¬ 0 < x → G E M ws q lv st) : G E M ws pc lv (.int x :: st) := by
  subst hq
  exact fun p e s m args below meth c C H locs ls hP hD hS hl => lv_if_gt C.1 C.2.1 hdg ht (fun h => kt h p e s m args below meth c C H locs ls hP hD hS hl) (fun h => kf h p e s m args below meth c C H locs ls hP hD hS hl)
theorem g_icmp_gt {E : EN} {M : MF} {ws : va_W} {pc : Nat} {lv : List (Nat × Value)} {st : List Value} {x y : Int32} {off : Int} {q t : Nat} (hdg : decode M.1.2.1 pc = .ok (.if_icmp .gt off, 3)) (ht : (pc : Int) + off = (t : Int)) (hq : pc + 3 = q) (kt : y < x → G E M ws t lv st) (kf : ¬ y < x → G E M ws q lv st) : G E M ws pc lv (.int y :: .int x :: st) := by
  subst hq
  exact fun p e s m args below meth c C H locs ls hP hD hS hl => lv_icmp_gt C.1 C.2.1 hdg ht (fun h => kt h p e s m args below meth c C H locs ls hP hD hS hl) (fun h => kf h p e s m args below meth c C H locs ls hP hD hS hl)
theorem g_if_le {E : EN} {M : MF} {ws : va_W} {pc : Nat} {lv : List (Nat × Value)} {st : List Value} {x : Int32} {off : Int} {q t : Nat} (hdg : decode M.1.2.1 pc = .ok (.ifCond .le off, 3)) (ht : (pc : Int) + off = (t : Int)) (hq : pc + 3 = q) (kt : x ≤ 0 → G E M ws t lv st) (kf : ¬ x ≤ 0 → G E M ws q lv st) : G E M ws pc lv (.int x :: st) := by
  subst hq
  exact fun p e s m args below meth c C H locs ls hP hD hS hl => lv_if_le C.1 C.2.1 hdg ht (fun h => kt h p e s m args below meth c C H locs ls hP hD hS hl) (fun h => kf h p e s m args below meth c C H locs ls hP hD hS hl)
theorem g_icmp_le {E : EN} {M : MF} {ws : va_W} {pc : Nat} {lv : List (Nat × Value)} {st : List Value} {x y : Int32} {off : Int} {q t : Nat} (hdg : decode M.1.2.1 pc = .ok (.if_icmp .le off, 3)) (ht : (pc : Int) + off = (t : Int)) (hq : pc + 3 = q) (kt : x ≤ y → G E M ws t lv st) (kf : ¬ x ≤ y → G E M ws q lv st) : G E M ws pc lv (.int y :: .int x :: st) := by
  subst hq
  exact fun p e s m args below meth c C H locs ls hP hD hS hl => lv_icmp_le C.1 C.2.1 hdg ht (fun h => kt h p e s m args below meth c C H locs ls hP hD hS hl) (fun h => kf h p e s m args below meth c C H locs ls hP hD hS hl)
theorem g_ldc {E : EN} {M : MF} {ws : va_W} {pc : Nat} {lv : List (Nat × Value)} {st : List Value} {own : String} {index : Nat} {v : Int32} {q : Nat} (hown : M.1.1 = own) (hc : Cond.constant own index v ∈ TB) (hdg : decode M.1.2.1 pc = .ok (.ldc index, 2)) (hq : pc + 2 = q) (k : G E M ws q lv (.int v :: st)) : G E M ws pc lv st := by
  subst hq
  subst hown
  exact fun p e s m args below meth c C H locs ls hP hD hS hl => lv_ldc C.1 C.2.1 C.2.2.2.2.1 (C.2.2.2.2.2.1 _ hc) hdg (k p e s m args below meth c C H locs ls hP hD hS hl)
theorem g_ldcw {E : EN} {M : MF} {ws : va_W} {pc : Nat} {lv : List (Nat × Value)} {st : List Value} {own : String} {index : Nat} {v : Int32} {q : Nat} (hown : M.1.1 = own) (hc : Cond.constant own index v ∈ TB) (hdg : decode M.1.2.1 pc = .ok (.ldc_w index, 3)) (hq : pc + 3 = q) (k : G E M ws q lv (.int v :: st)) : G E M ws pc lv st := by
  subst hq
  subst hown
  exact fun p e s m args below meth c C H locs ls hP hD hS hl => lv_ldcw C.1 C.2.1 C.2.2.2.2.1 (C.2.2.2.2.2.1 _ hc) hdg (k p e s m args below meth c C H locs ls hP hD hS hl)
theorem g_ldc2 {E : EN} {M : MF} {ws : va_W} {pc : Nat} {lv : List (Nat × Value)} {st : List Value} {own : String} {index : Nat} {v : Int64} {q : Nat} (hown : M.1.1 = own) (hc : Cond.constantLong own index v ∈ TB) (hdg : decode M.1.2.1 pc = .ok (.ldc2_w index, 3)) (hq : pc + 3 = q) (k : G E M ws q lv (.long v :: st)) : G E M ws pc lv st := by
  subst hq
  subst hown
  exact fun p e s m args below meth c C H locs ls hP hD hS hl => lv_ldc2 C.1 C.2.1 C.2.2.2.2.1 (C.2.2.2.2.2.1 _ hc) hdg (k p e s m args below meth c C H locs ls hP hD hS hl)
theorem g_tableIn {E : EN} {M : MF} {ws : va_W} {pc : Nat} {lv : List (Nat × Value)} {st : List Value} {dflt lo hi : Int} {offs : Array Int} {len : Nat} {x : Int32} {off : Int} {q : Nat} (hdg : decode M.1.2.1 pc = .ok (.tableswitch dflt lo hi offs, len)) (h1 : ¬ x.toInt < lo) (h2 : ¬ hi < x.toInt) (ho : offs[(x.toInt - lo).toNat]? = some off) (ht : (pc : Int) + off = (q : Int)) (k : G E M ws q lv st) : G E M ws pc lv (.int x :: st) := fun p e s m args below meth c C H locs ls hP hD hS hl => lv_tableIn C.1 C.2.1 hdg h1 h2 ho ht (k p e s m args below meth c C H locs ls hP hD hS hl)
theorem g_tableOut {E : EN} {M : MF} {ws : va_W} {pc : Nat} {lv : List (Nat × Value)} {st : List Value} {dflt lo hi : Int} {offs : Array Int} {len : Nat} {x : Int32} {q : Nat} (hdg : decode M.1.2.1 pc = .ok (.tableswitch dflt lo hi offs, len)) (h : x.toInt < lo ∨ hi < x.toInt) (ht : (pc : Int) + dflt = (q : Int)) (k : G E M ws q lv st) : G E M ws pc lv (.int x :: st) := fun p e s m args below meth c C H locs ls hP hD hS hl => lv_tableOut C.1 C.2.1 hdg h ht (k p e s m args below meth c C H locs ls hP hD hS hl)
theorem g_lookup {E : EN} {M : MF} {ws : va_W} {pc : Nat} {lv : List (Nat × Value)} {st : List Value} {dflt : Int} {ps : Array (Int × Int)} {len : Nat} {x : Int32} {off : Int} {q : Nat} (hdg : decode M.1.2.1 pc = .ok (.lookupswitch dflt ps, len)) (hp : (ps.toList.zip (ps.toList.drop 1)).all (fun (a, next) => a.1 < next.1) = true) (ho : Op.lookupswitch.offset ps.toList dflt x.toInt = off) (ht : (pc : Int) + off = (q : Int)) (k : G E M ws q lv st) : G E M ws pc lv (.int x :: st) := fun p e s m args below meth c C H locs ls hP hD hS hl => lv_lookup C.1 C.2.1 hdg hp ho ht (k p e s m args below meth c C H locs ls hP hD hS hl)
theorem g_iret {E : EN} {M : MF} {ws : va_W} {pc : Nat} {lv : List (Nat × Value)} {st : List Value} {v : Int32} {ty : FieldType} (hdg : decode M.1.2.1 pc = .ok (.ireturn, 1)) (hr : M.2.1.1 = some ty) (hn : narrow ty (.int v) = .int v) (hw : ws.map Prod.fst = M.2.2.2.2) (hQ : M.2.2.2.1 (some (.int v)) ws) : G E M ws pc lv [.int v] := by
  intro p e s m args below meth c C H locs ls hP hD hS hl
  exact W.zret (ty := ty) C.1 C.2.1 (C.2.2.1.trans hr) hn (fun t ht hW => ⟨⟨_, ws, rfl, hQ, hw, by rw [ht]; exact hP, hD⟩, hS.F ht⟩) hS.2.2 hdg C.2.2.2.2.2.2.2.2.2
theorem g_vret {E : EN} {M : MF} {ws : va_W} {pc : Nat} {lv : List (Nat × Value)} {st : List Value} (hdg : decode M.1.2.1 pc = .ok (.return_, 1)) (hr : M.2.1.1 = none) (hw : ws.map Prod.fst = M.2.2.2.2) (hQ : M.2.2.2.1 none ws) : G E M ws pc lv [] := by
  intro p e s m args below meth c C H locs ls hP hD hS hl
  exact W.vret C.1 C.2.1 (C.2.2.1.trans hr) (fun t ht hW => ⟨⟨_, ws, rfl, hQ, hw, by rw [ht]; exact hP, hD⟩, hS.F ht⟩) hS.2.2 hdg C.2.2.2.2.2.2.2.2.2
theorem g_aret {E : EN} {M : MF} {ws : va_W} {pc : Nat} {lv : List (Nat × Value)} {st : List Value} {a : Nat} {rt : FieldType} (hdg : decode M.1.2.1 pc = .ok (.areturn, 1)) (hr : M.2.1.1 = some rt) (hrt : (∃ n, rt = .object n) ∨ ∃ t, rt = .array t) (hw : ws.map Prod.fst = M.2.2.2.2) (hQ : M.2.2.2.1 (some (.ref a)) ws) : G E M ws pc lv [.ref a] := by
  intro p e s m args below meth c C H locs ls hP hD hS hl
  exact W.aret C.1 C.2.1 (C.2.2.1.trans hr) hrt (Or.inr ⟨a, rfl⟩) (fun t ht hW => ⟨⟨_, ws, rfl, hQ, hw, by rw [ht]; exact hP, hD⟩, hS.F ht⟩) hS.2.2 hdg C.2.2.2.2.2.2.2.2.2
theorem g_get {E : EN} {M : MF} {ws : va_W} {pc : Nat} {lv : List (Nat × Value)} {st : List Value} {own C0 : String} {T : u_T} {N ci index : Nat} {q : Nat} {a : Nat} {fs : List Value} {v : Value} (hown : M.1.1 = own) (hin : ∀ w ∈ u_ws C0 T N, w ∈ TB) (hc : vwCl[ci]? = some (C0, T, N)) (k : Nat) (hk : k < N) (hlink : Cond.fieldLink own index (T k).1 (T k).2.1 (T k).2.2.1 ∈ TB) (q0 : Nat) (he : ws[q0]? = some (a, .inr (ci, fs))) (hv : fs[k]? = some v) (hdg : decode M.1.2.1 pc = .ok (.getfield index, 3)) (hq : pc + 3 = q) (kk : G E M ws q lv (v :: st)) : G E M ws pc lv (.ref a :: st) := by
  subst hq
  subst hown
  exact fun p e s m args below meth c C H locs ls hP hD hS hl => va_get C.1 C.2.1 C.2.2.2.2.2.1 hin C.2.2.2.2.1 C.2.2.2.2.2.2.1 hP q0 he hc k hk (C.2.2.2.2.2.1 _ hlink) (fun _ h => h) hv hdg (kk p e s m args below meth c C H locs ls hP hD hS hl)
theorem g_put {E : EN} {M : MF} {ws : va_W} {pc : Nat} {lv : List (Nat × Value)} {st : List Value} {own C0 : String} {T : u_T} {N ci index : Nat} {q : Nat} {a : Nat} {fs : List Value} {v : Value} {ty : FieldType} {ws' : va_W} (hown : M.1.1 = own) (hin : ∀ w ∈ u_ws C0 T N, w ∈ TB) (ty0 : Nat → FieldType) (hty : ∀ k, k < N → parseFieldDescriptor (T k).2.2.1 = some (ty0 k)) (hnm : ∀ a, a < N → ∀ b, b < N → a ≠ b → (T a).2.1 ≠ (T b).2.1) (hc : vwCl[ci]? = some (C0, T, N)) (k : Nat) (hk : k < N) (hlink : Cond.fieldLink own index (T k).1 (T k).2.1 (T k).2.2.1 ∈ TB) (hfin : (T k).2.2.2 = false) (hd : parseFieldDescriptor (T k).2.2.1 = some ty) (hn : narrow ty v = v) (hfit : fits ty v = true) (q0 : Nat) (he : ws[q0]? = some (a, .inr (ci, fs))) (hl0 : k < fs.length) (hws : ws.set q0 (a, .inr (ci, fs.set k v)) = ws') (hdg : decode M.1.2.1 pc = .ok (.putfield index, 3)) (hq : pc + 3 = q) (kk : G E M ws' q lv st) : G E M ws pc lv (v :: .ref a :: st) := by
  subst hq
  subst hown
  subst hws
  exact fun p e s m args below meth c C H locs ls hP hD hS hl => va_put C.1 C.2.1 C.2.2.2.2.2.1 hin ty0 hty hnm C.2.2.2.2.1 C.2.2.2.2.2.2.1 hP hD hS q0 he hc k hk (C.2.2.2.2.2.1 _ hlink) (fun _ h => h) hfin hd hn hfit hl0 hdg (fun H1 locs1 hP1 hD1 hS1 => kk p e s m args below meth c C H1 locs1 ls hP1 hD1 hS1 hl)
theorem g_iald {E : EN} {M : MF} {ws : va_W} {pc : Nat} {lv : List (Nat × Value)} {st : List Value} {q : Nat} {a n : Nat} {f : Nat → Int32} {i v : Int32} (q0 : Nat) (he : ws[q0]? = some (a, .inl (E.2.1.1, n, .inl f))) (hin : vp_in i n) (hv : f i.toNatClampNeg = v) (hdg : decode M.1.2.1 pc = .ok (.iaload, 1)) (hq : pc + 1 = q) (kk : G E M ws q lv (.int v :: st)) : G E M ws pc lv (.int i :: .ref a :: st) := by
  subst hq
  subst hv
  exact fun p e s m args below meth c C H locs ls hP hD hS hl => va_iald C.1 C.2.1 C.2.2.2.2.2.2.1 hP q0 0 he rfl hin hdg (kk p e s m args below meth c C H locs ls hP hD hS hl)
theorem g_bald {E : EN} {M : MF} {ws : va_W} {pc : Nat} {lv : List (Nat × Value)} {st : List Value} {q : Nat} {a n : Nat} {f : Nat → Int32} {i v : Int32} (q0 : Nat) (he : ws[q0]? = some (a, .inl (E.2.1.2.1, n, .inl f))) (hin : vp_in i n) (hv : f i.toNatClampNeg = v) (hdg : decode M.1.2.1 pc = .ok (.baload, 1)) (hq : pc + 1 = q) (kk : G E M ws q lv (.int v :: st)) : G E M ws pc lv (.int i :: .ref a :: st) := by
  subst hq
  subst hv
  exact fun p e s m args below meth c C H locs ls hP hD hS hl => va_bald C.1 C.2.1 C.2.2.2.2.2.2.1 hP q0 1 he rfl hin hdg (kk p e s m args below meth c C H locs ls hP hD hS hl)
theorem g_zald {E : EN} {M : MF} {ws : va_W} {pc : Nat} {lv : List (Nat × Value)} {st : List Value} {q : Nat} {a n : Nat} {f : Nat → Int32} {i v : Int32} (q0 : Nat) (he : ws[q0]? = some (a, .inl (E.2.1.2.2.1, n, .inl f))) (hin : vp_in i n) (hv : f i.toNatClampNeg = v) (hdg : decode M.1.2.1 pc = .ok (.baload, 1)) (hq : pc + 1 = q) (kk : G E M ws q lv (.int v :: st)) : G E M ws pc lv (.int i :: .ref a :: st) := by
  subst hq
  subst hv
  exact fun p e s m args below meth c C H locs ls hP hD hS hl => va_zald C.1 C.2.1 C.2.2.2.2.2.2.1 hP q0 2 he rfl hin hdg (kk p e s m args below meth c C H locs ls hP hD hS hl)
theorem g_iast {E : EN} {M : MF} {ws : va_W} {pc : Nat} {lv : List (Nat × Value)} {st : List Value} {q : Nat} {a n : Nat} {f f' : Nat → Int32} {i x : Int32} {ws' : va_W} (q0 : Nat) (he : ws[q0]? = some (a, .inl (E.2.1.1, n, .inl f))) (hin : vp_in i n) (hf : upd f i.toNatClampNeg x = f') (hws : ws.set q0 (a, .inl (E.2.1.1, n, .inl f')) = ws') (hdg : decode M.1.2.1 pc = .ok (.iastore, 1)) (hq : pc + 1 = q) (kk : G E M ws' q lv st) : G E M ws pc lv (.int x :: .int i :: .ref a :: st) := by
  subst hq
  subst hf
  subst hws
  exact fun p e s m args below meth c C H locs ls hP hD hS hl => va_iast C.1 C.2.1 C.2.2.2.2.2.2.1 hP hD hS q0 0 he rfl hin hdg (fun H1 locs1 hP1 hD1 hS1 => kk p e s m args below meth c C H1 locs1 ls hP1 hD1 hS1 hl)
theorem g_bast {E : EN} {M : MF} {ws : va_W} {pc : Nat} {lv : List (Nat × Value)} {st : List Value} {q : Nat} {a n : Nat} {f f' : Nat → Int32} {i x : Int32} {ws' : va_W} (q0 : Nat) (he : ws[q0]? = some (a, .inl (E.2.1.2.1, n, .inl f))) (hin : vp_in i n) (hf : upd f i.toNatClampNeg (vp_nar .byte x) = f') (hws : ws.set q0 (a, .inl (E.2.1.2.1, n, .inl f')) = ws') (hdg : decode M.1.2.1 pc = .ok (.bastore, 1)) (hq : pc + 1 = q) (kk : G E M ws' q lv st) : G E M ws pc lv (.int x :: .int i :: .ref a :: st) := by
  subst hq
  subst hf
  subst hws
  exact fun p e s m args below meth c C H locs ls hP hD hS hl => va_bast C.1 C.2.1 C.2.2.2.2.2.2.1 hP hD hS q0 1 he rfl hin hdg (fun H1 locs1 hP1 hD1 hS1 => kk p e s m args below meth c C H1 locs1 ls hP1 hD1 hS1 hl)
theorem g_zast {E : EN} {M : MF} {ws : va_W} {pc : Nat} {lv : List (Nat × Value)} {st : List Value} {q : Nat} {a n : Nat} {f f' : Nat → Int32} {i x : Int32} {ws' : va_W} (q0 : Nat) (he : ws[q0]? = some (a, .inl (E.2.1.2.2.1, n, .inl f))) (hin : vp_in i n) (hf : upd f i.toNatClampNeg (vp_nar .boolean x) = f') (hws : ws.set q0 (a, .inl (E.2.1.2.2.1, n, .inl f')) = ws') (hdg : decode M.1.2.1 pc = .ok (.bastore, 1)) (hq : pc + 1 = q) (kk : G E M ws' q lv st) : G E M ws pc lv (.int x :: .int i :: .ref a :: st) := by
  subst hq
  subst hf
  subst hws
  exact fun p e s m args below meth c C H locs ls hP hD hS hl => va_zast C.1 C.2.1 C.2.2.2.2.2.2.1 hP hD hS q0 2 he rfl hin hdg (fun H1 locs1 hP1 hD1 hS1 => kk p e s m args below meth c C H1 locs1 ls hP1 hD1 hS1 hl)
theorem g_aald {E : EN} {M : MF} {ws : va_W} {pc : Nat} {lv : List (Nat × Value)} {st : List Value} {q : Nat} {a n b : Nat} {f : Nat → Option Nat} {i : Int32} (q0 : Nat) (he : ws[q0]? = some (a, .inl (E.2.1.2.2.2, n, .inr (.inr (.inr (.inr f)))))) (hin : vp_in i n) (hv : f i.toNatClampNeg = some b) (hdg : decode M.1.2.1 pc = .ok (.aaload, 1)) (hq : pc + 1 = q) (kk : G E M ws q lv (.ref b :: st)) : G E M ws pc lv (.int i :: .ref a :: st) := by
  subst hq
  intro p e s m args below meth c C H locs ls hP hD hS hl
  refine va_aldq (C := "PoundBoys$Folk") C.1 C.2.1 C.2.2.2.2.2.2.1 hP q0 3 he rfl hin hdg ?_
  rw [hv]
  exact kk p e s m args below meth c C H locs ls hP hD hS hl
theorem g_mmax {E : EN} {M : MF} {ws : va_W} {pc : Nat} {lv : List (Nat × Value)} {st : List Value} {own : String} {index : Nat} {q : Nat} {x y : Int32} (hown : M.1.1 = own) (hlink : Cond.methodLink own index Lib.Math.max.name ∈ TB) (hstat : Cond.static Lib.Math.max.name ∈ TB) (hini : Cond.initialized "java/lang/Math" ∈ TB) (hcode : Cond.code Lib.Math.max.name Lib.Math.max.code 2 (some .int) ∈ TB) (hd : 1 ≤ M.2.1.2) (hroom : (st.map fun v => v.category).sum + 13 ≤ 64 * M.2.1.2) (hdg : decode M.1.2.1 pc = .ok (.invokestatic index, 3)) (hq : pc + 3 = q) (kk : G E M ws q lv (.int (if x < y then y else x) :: st)) : G E M ws pc lv (.int y :: .int x :: st) := by
  subst hq
  subst hown
  exact fun p e s m args below meth c C H locs ls hP hD hS hl => va_mmax C.1 C.2.1 (C.2.2.2.1.trans hl.1.symm) C.2.2.2.2.1 (C.2.2.2.2.2.1 _ hlink) (C.2.2.2.2.2.1 _ hstat) (C.2.2.2.2.2.1 _ hini) (C.2.2.2.2.2.1 _ hcode) hd hroom (Nat.le_refl _) (Nat.le_refl _) hdg (kk p e s m args below meth c C H locs ls hP hD hS hl)
theorem g_mmin {E : EN} {M : MF} {ws : va_W} {pc : Nat} {lv : List (Nat × Value)} {st : List Value} {own : String} {index : Nat} {q : Nat} {x y : Int32} (hown : M.1.1 = own) (hlink : Cond.methodLink own index Lib.Math.min.name ∈ TB) (hstat : Cond.static Lib.Math.min.name ∈ TB) (hini : Cond.initialized "java/lang/Math" ∈ TB) (hcode : Cond.code Lib.Math.min.name Lib.Math.min.code 2 (some .int) ∈ TB) (hd : 1 ≤ M.2.1.2) (hroom : (st.map fun v => v.category).sum + 13 ≤ 64 * M.2.1.2) (hdg : decode M.1.2.1 pc = .ok (.invokestatic index, 3)) (hq : pc + 3 = q) (kk : G E M ws q lv (.int (if y < x then y else x) :: st)) : G E M ws pc lv (.int y :: .int x :: st) := by
  subst hq
  subst hown
  exact fun p e s m args below meth c C H locs ls hP hD hS hl => va_mmin C.1 C.2.1 (C.2.2.2.1.trans hl.1.symm) C.2.2.2.2.1 (C.2.2.2.2.2.1 _ hlink) (C.2.2.2.2.2.1 _ hstat) (C.2.2.2.2.2.1 _ hini) (C.2.2.2.2.2.1 _ hcode) hd hroom (Nat.le_refl _) (Nat.le_refl _) hdg (kk p e s m args below meth c C H locs ls hP hD hS hl)
theorem g_mabs {E : EN} {M : MF} {ws : va_W} {pc : Nat} {lv : List (Nat × Value)} {st : List Value} {own : String} {index : Nat} {q : Nat} {x : Int32} (hown : M.1.1 = own) (hlink : Cond.methodLink own index Lib.Math.abs.name ∈ TB) (hstat : Cond.static Lib.Math.abs.name ∈ TB) (hini : Cond.initialized "java/lang/Math" ∈ TB) (hcode : Cond.code Lib.Math.abs.name Lib.Math.abs.code 1 (some .int) ∈ TB) (hd : 1 ≤ M.2.1.2) (hroom : (st.map fun v => v.category).sum + 13 ≤ 64 * M.2.1.2) (hdg : decode M.1.2.1 pc = .ok (.invokestatic index, 3)) (hq : pc + 3 = q) (kk : G E M ws q lv (.int (if 0 ≤ x then x else 0 - x) :: st)) : G E M ws pc lv (.int x :: st) := by
  subst hq
  subst hown
  exact fun p e s m args below meth c C H locs ls hP hD hS hl => va_mabs C.1 C.2.1 (C.2.2.2.1.trans hl.1.symm) C.2.2.2.2.1 (C.2.2.2.2.2.1 _ hlink) (C.2.2.2.2.2.1 _ hstat) (C.2.2.2.2.2.1 _ hini) (C.2.2.2.2.2.1 _ hcode) hd hroom (Nat.le_refl _) (Nat.le_refl _) hdg (kk p e s m args below meth c C H locs ls hP hD hS hl)
