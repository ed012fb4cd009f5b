def putAt : va_W → List Nat → va_W → va_W
  | ws, i :: is, c :: cs => putAt (ws.set i c) is cs
  | ws, _, _ => ws
theorem putAt_get : ∀ (is : List Nat) (ws w1 : va_W) (k : Nat) (q : Nat × va_E), w1.length = is.length → (putAt ws is w1)[k]? = some q → (∃ j : Nat, is[j]? = some k ∧ w1[j]? = some q) ∨ (ws[k]? = some q ∧ k ∉ is)
  | [], ws, w1, k, q, hl, h => by
    right
    refine ⟨?_, by simp⟩
    cases w1 with
    | nil => exact h
    | cons c cs => simp at hl
  | i :: is, ws, [], k, q, hl, h => by simp at hl
  | i :: is, ws, c :: cs, k, q, hl, h => by
    have h' : (putAt (ws.set i c) is cs)[k]? = some q := h
    rcases putAt_get is (ws.set i c) cs k q (by simpa using hl) h' with ⟨j, h1, h2⟩ | ⟨h1, h2⟩
    · exact Or.inl ⟨j + 1, by simpa using h1, by simpa using h2⟩
    · rw [List.getElem?_set] at h1
      by_cases hk : i = k
      · subst hk
        left
        refine ⟨0, rfl, ?_⟩
        rw [if_pos rfl] at h1
        by_cases hlt : i < ws.length
        · rw [if_pos hlt] at h1
          simpa using h1
        · rw [if_neg hlt] at h1
          cases h1
      · rw [if_neg hk] at h1
        refine Or.inr ⟨h1, ?_⟩
        intro hm
        rcases List.mem_cons.mp hm with e | e
        · exact hk e.symm
        · exact h2 e
theorem putAt_fst : ∀ (is : List Nat) (ws w1 : va_W), (∀ (j i : Nat) (c : Nat × va_E), is[j]? = some i → w1[j]? = some c → (ws.map Prod.fst)[i]? = some c.1) → (putAt ws is w1).map Prod.fst = ws.map Prod.fst
  | [], ws, w1, _ => by cases w1 <;> rfl
  | i :: is, ws, [], _ => rfl
  | i :: is, ws, c :: cs, h => by
    have h0 : (ws.set i c).map Prod.fst = ws.map Prod.fst := by
      have h1 := h 0 i c rfl rfl
      rw [List.map_set]
      apply List.ext_getElem?
      intro k
      rw [List.getElem?_set]
      by_cases hk : i = k
      · subst hk
        rw [if_pos rfl, h1, if_pos (List.getElem?_eq_some_iff.mp h1).1]
      · rw [if_neg hk]
    show (putAt (ws.set i c) is cs).map Prod.fst = _
    rw [putAt_fst is (ws.set i c) cs (fun j i' c' h1 h2 => by rw [h0]; exact h (j + 1) i' c' (by simpa using h1) (by simpa using h2)), h0]
theorem va_D_fst {A : Nat → Prop} {ws ws' : va_W} (h : ws'.map Prod.fst = ws.map Prod.fst) (hD : va_D A ws) : va_D A ws' := by
  have hx : ∀ (k : Nat) (q : Nat × va_E), ws'[k]? = some q → ∃ p, ws[k]? = some p ∧ p.1 = q.1 := by
    intro k q hk
    have h1 : (ws'.map Prod.fst)[k]? = some q.1 := by rw [List.getElem?_map, hk]; rfl
    rw [h, List.getElem?_map] at h1
    cases hp : ws[k]? with
    | none => rw [hp] at h1; simp at h1
    | some p => rw [hp] at h1; exact ⟨p, rfl, by simpa using h1⟩
  refine ⟨fun i j p q hi hj e => ?_, fun k q hk => ?_⟩
  · obtain ⟨p', a1, a2⟩ := hx i p hi
    obtain ⟨q', b1, b2⟩ := hx j q hj
    exact hD.1 i j p' q' a1 b1 (by rw [a2, b2, e])
  · obtain ⟨p', a1, a2⟩ := hx k q hk
    rw [← a2]
    exact hD.2 k p' a1
theorem join_put {A : Nat → Prop} {D : va_G} {cl : List vw_C} {ws wc w1 : va_W} {H H1 : Heap} (hP : va_P D cl ws H) (hD : va_D A ws) (is : List Nat) (hC : is.map (fun i => ws[i]?) = wc.map some) (ha : w1.map Prod.fst = wc.map Prod.fst) (P1 : va_P D cl w1 H1) (hk : ∀ q : Nat, q < H.size → ¬ va_A wc H.size q → H1[q]? = H[q]?) : va_P D cl (putAt ws is w1) H1 ∧ va_D A (putAt ws is w1) := by
  have hl1 : w1.length = wc.length := by have := congrArg List.length ha; simpa using this
  have hl2 : is.length = wc.length := by have := congrArg List.length hC; simpa using this
  have hx : ∀ (j i : Nat), is[j]? = some i → ∃ e, wc[j]? = some e ∧ ws[i]? = some e := by
    intro j i hj
    have h1 : (is.map (fun i => ws[i]?))[j]? = some (ws[i]?) := by rw [List.getElem?_map, hj]; rfl
    rw [hC, List.getElem?_map] at h1
    cases hp : wc[j]? with
    | none => rw [hp] at h1; simp at h1
    | some e => rw [hp] at h1; exact ⟨e, rfl, by simpa using h1.symm⟩
  refine ⟨fun k q hq => ?_, va_D_fst (putAt_fst is ws w1 ?_) hD⟩
  · rcases putAt_get is ws w1 k q (hl1.trans hl2.symm) hq with ⟨j, h1, h2⟩ | ⟨h1, h2⟩
    · exact P1 j q h2
    · have h3 := hP k q h1
      refine h3.kept (hk q.1 h3.lt ?_)
      rintro (⟨j, e, hj⟩ | h)
      · have hjl : j < is.length := by rw [hl2]; exact (List.getElem?_eq_some_iff.mp hj).1
        obtain ⟨e', g1, g2⟩ := hx j is[j] (List.getElem?_eq_getElem hjl)
        rw [hj] at g1
        cases g1
        have hkk := hD.1 k is[j] q (q.1, e) h1 g2 rfl
        exact h2 (by rw [hkk]; exact List.getElem_mem hjl)
      · exact Nat.lt_irrefl _ (Nat.lt_of_lt_of_le h3.lt h)
  · intro j i c hj hc
    obtain ⟨e', g1, g2⟩ := hx j i hj
    have h1 : (w1.map Prod.fst)[j]? = some c.1 := by rw [List.getElem?_map, hc]; rfl
    rw [ha, List.getElem?_map, g1] at h1
    rw [List.getElem?_map, g2]
    exact h1
section CALLD
variable {p : Program} {l : Launch} {e : Env} {R : Room} {s : State} {m : MethodId} {args : Array Value} {below : List Frame} {meth : Method} {c : Code} {H : Heap} {locs : List Loc} {cells slots : Nat} {Q : State → Prop}
variable {pc : Nat} {ls : Array Slot} {rest st0 : List Value} {a : Array Value} {A0 A1 : Nat → Prop} {H0 : Heap} {mc ms : Nat} {free : Addr → Prop}
theorem va_callD {E : EN} {Qr : Option Value → va_W → Prop} {w0 : List Nat} (hr : va_Run p l e R s m args below meth c H locs cells slots mc ms (F0 m pc ls st0) rest (QD E Qr w0 A1 a) free) (hS : va_S A0 H0 H locs) (hA : ∀ q, q < H.size → A1 q → A0 q) (hf : ∀ q, free q → A0 q)
    (kk : ∀ (r : Option Value) (w' : va_W) (H1 : Heap) (locs1 : List Loc), Qr r w' → w'.map Prod.fst = w0 → va_P E.1.1 vwCl w' H1 → (∀ q : Nat, q < H.size → ¬ A1 q → H1[q]? = H[q]?) → va_S A0 H0 H1 locs1 → W p l e R s m args below meth c H1 locs1 (cells + mc) (slots + ms) Q (F0 m (pc + 3) ls (r.toList ++ rest))) : W p l e R s m args below meth c H locs cells slots Q (F0 m pc ls st0) := by
  intro T hT X
  obtain ⟨v, st₀, t, T', L, h0, X', hL, e1, e2, ⟨⟨r, w', hv, hp, hw, hb, hd⟩, hz, hk⟩, st⟩ := hr T hT X
  cases hv
  rw [h0] at hz hk
  obtain ⟨t2, a1, b1⟩ := kk v w' T'.heap (locs ++ L) hp hw (by rw [e1]; exact hb) (fun q h1 h2 => by rw [e1]; exact hk q h1 h2)
    ⟨Nat.le_trans hS.1 (by rw [e1]; exact hz), fun q h1 h2 => by rw [e1, hk q (Nat.lt_of_lt_of_le h1 hS.1) (fun z => h2 (hA q (Nat.lt_of_lt_of_le h1 hS.1) z))]; exact hS.2.1 q h1 h2, fun q hq => by
      rcases List.mem_append.mp hq with h | h
      · exact hS.2.2 q h
      · exact hf _ (hL q h)⟩ T' rfl X'
  exact ⟨t2, st t2 a1, b1⟩
end CALLD
theorem pc_blind {E : EN} {w : va_W} {sz : Nat} {av : List Value} : FrameBlind (va_Pc av (PC E w sz)) := fun a U g mk q => by
  obtain ⟨q0, q1, qP, qK, qD, qa⟩ := q
  exact ⟨q0, q1, qP, va_K.moved (u := U) (U := U.calling g mk a) (Vm.Alike.refl U.vm) qK, qD, amb.same (u := U) (U := U.calling g mk a) rfl qa⟩
theorem pc_at {E : EN} {A : Nat → Prop} {ws wc : va_W} {s U : State} {H : Heap} {locs : List Loc} {av : List Value} (hK : va_K E.1.1 vwCl (tyE E) s) (ha : amb E A s s.heap) (hA : ∀ q, s.heap.size ≤ q → A q) (hP : va_P E.1.1 vwCl ws H) (hD : va_D A ws) (hS : va_S A s.heap H locs) (is : List Nat) (hn : va_nd is = true) (hC : is.map (fun i => ws[i]?) = wc.map some) (hU : U.heap = H) (hW : s.WarmedH U.vm) : va_Pc av (PC E wc H.size) av.toArray U := by
  have hs : is.filterMap (fun i => ws[i]?) = wc := by
    have h1 : is.filterMap (fun i => ws[i]?) = (is.map (fun i => ws[i]?)).filterMap id := by rw [List.filterMap_map]; rfl
    rw [h1, hC, List.filterMap_map]
    show wc.filterMap some = wc
    exact List.filterMap_some
  refine ⟨rfl, by rw [hU], by rw [hU]; exact hP.sub is hs, va_K.moved hW.alike hK, (hD.sub is hn hC).weaken (fun _ _ _ _ => trivial), ?_⟩
  rw [hU]
  exact amb.moved hW ((ha.kept hS.2.1).narrow (va_free hD hS hA is hC))
theorem gi_V {own C : String} {index nL : Nat} {y : MethodName} {b : ByteArray} {rt : Option FieldType} (h1 : Cond.methodLink own index y ∈ TB) (h2 : Cond.instanceMethod y ∈ TB) (h3 : Cond.selects C y y ∈ TB) (h4 : Cond.initialized C ∈ TB) (h5 : Cond.code y b nL rt ∈ TB) : GoodIn TB (wsV own index C y (.code y b nL rt :: TB)) := by
  intro w hw
  have h : w ∈ TB := by
    rcases List.mem_append.mp hw with h | h
    · simp only [List.mem_cons, List.not_mem_nil, or_false] at h
      rcases h with rfl | rfl | rfl | rfl
      · exact h1
      · exact h2
      · exact h3
      · exact h4
    · rcases List.mem_cons.mp h with rfl | h
      · exact h5
      · exact h
  exact ⟨h, (tb_good w h).2⟩
theorem gi_S {own : String} {index nL : Nat} {y : MethodName} {b : ByteArray} {rt : Option FieldType} (h1 : Cond.methodLink own index y ∈ TB) (h2 : Cond.static y ∈ TB) (h4 : Cond.initialized y.cls ∈ TB) (h5 : Cond.code y b nL rt ∈ TB) : GoodIn TB (va_wsS own index y (.code y b nL rt :: TB)) := by
  intro w hw
  have h : w ∈ TB := by
    rcases List.mem_append.mp hw with h | h
    · simp only [List.mem_cons, List.not_mem_nil, or_false] at h
      rcases h with rfl | rfl | rfl
      · exact h1
      · exact h2
      · exact h4
    · rcases List.mem_cons.mp h with rfl | h
      · exact h5
      · exact h
  exact ⟨h, (tb_good w h).2⟩
theorem gi_C {nL : Nat} {y : MethodName} {b : ByteArray} {rt : Option FieldType} (h5 : Cond.code y b nL rt ∈ TB) : GoodIn TB (.code y b nL rt :: TB) := by
  intro w hw
  have h : w ∈ TB := by
    rcases List.mem_cons.mp hw with rfl | h
    · exact h5
    · exact h
  exact ⟨h, (tb_good w h).2⟩
theorem rm_ok {d' d nL : Nat} (h : d' + 1 ≤ d) (hn : nL ≤ 45) : (rmD d').frames + 1 ≤ (rmD d).frames ∧ 8 + (nL + 11) + (rmD d').locals ≤ (rmD d).locals := by
  refine ⟨h, ?_⟩
  show 8 + (nL + 11) + 64 * d' ≤ 64 * d
  omega
theorem g_callR {E : EN} {M : MF} {ws : va_W} {pc : Nat} {lv : List (Nat × Value)} {st0 : List Value} {own C : String} {index nL n d' q a : Nat} {y : MethodName} {b : ByteArray} {rt : Option FieldType} {As rest : List Value} {wc : va_W} {Qr : Option Value → va_W → Prop} (hown : M.1.1 = own) (h1 : Cond.methodLink own index y ∈ TB) (h2 : Cond.instanceMethod y ∈ TB) (h3 : Cond.selects C y y ∈ TB) (h4 : Cond.initialized C ∈ TB) (h5 : Cond.code y b nL rt ∈ TB) (hd : y.cls = C ∧ y.cls ≠ "java/lang/invoke/MethodHandle" ∧ y.cls ≠ "java/lang/invoke/VarHandle" ∧ (parseMethodDescriptor y.desc).map (fun d => d.parameters.length) = some n) (hnL : nL ≤ 45)
    (hrec : ∀ (s : State) (H : Heap) (locs : List Loc), va_K E.1.1 vwCl (tyE E) s → amb E M.2.2.1 s s.heap → va_P E.1.1 vwCl ws H → va_S M.2.2.1 s.heap H locs → ∃ cellB : Cell, H[a]? = some cellB ∧ cellB.vm.isStatics = false ∧ s.vm.findClass C = some cellB.cls)
    (hM : CT E y b nL rt d' (.ref a :: As) wc Qr) (hdd : d' + 1 ≤ M.2.1.2) (hlen : As.length = n) (is : List Nat) (hnd : va_nd is = true) (hC : is.map (fun i => ws[i]?) = wc.map some) (hst : st0 = As.reverse ++ .ref a :: rest) (hroom : (rest.map fun v => v.category).sum ≤ 8) (hdg : decode M.1.2.1 pc = .ok (.invokevirtual index, 3)) (hq : pc + 3 = q)
    (kk : ∀ (r : Option Value) (w' : va_W), Qr r w' → G E M (putAt ws is w') q lv (r.toList ++ rest)) : G E M ws pc lv st0 := by
  subst hq
  subst hown
  intro p e s m args below meth c C0 H locs ls hP hD hS hl
  have C1 := C0
  obtain ⟨hx, hb, hr, hml, ho, hts, hK, ha, hA, hlk⟩ := C1
  have hFc := va_free hD hS hA is hC
  refine va_callD (va_runV (As := As) (rest := rest) ⟨hx, hb, hml, ho, hts⟩ (hM H.size) (cwV n hts (gi_V h1 h2 h3 h4 h5) rfl rfl rfl hd (rm_ok hdd hnL)) ⟨pc_blind, hrec s H locs hK ha hP hS, fun U hU hW => pc_at hK ha hA hP hD hS is hnd hC hU hW⟩ rfl hlen hl.1 hst (lv_room hroom) hdg ⟨Nat.le_refl _, Nat.le_refl _⟩) hS (fun q _ h => hFc q h) hFc (fun r w' H1 locs1 hq hw hP1 hk hS1 => ?_)
  obtain ⟨hP2, hD2⟩ := join_put hP hD is hC hw hP1 hk
  exact kk r w' hq p e s m args below meth c C0 H1 locs1 ls hP2 hD2 hS1 hl
theorem g_callV {E : EN} {M : MF} {ws : va_W} {pc : Nat} {lv : List (Nat × Value)} {st0 : List Value} {own C : String} {T : u_T} {N ci index nL n d' q a : Nat} {y : MethodName} {b : ByteArray} {rt : Option FieldType} {fs As rest : List Value} {wc : va_W} {Qr : Option Value → va_W → Prop} (hown : M.1.1 = own) (h1 : Cond.methodLink own index y ∈ TB) (h2 : Cond.instanceMethod y ∈ TB) (h3 : Cond.selects C y y ∈ TB) (h4 : Cond.initialized C ∈ TB) (h5 : Cond.code y b nL rt ∈ TB) (hd : y.cls = C ∧ y.cls ≠ "java/lang/invoke/MethodHandle" ∧ y.cls ≠ "java/lang/invoke/VarHandle" ∧ (parseMethodDescriptor y.desc).map (fun d => d.parameters.length) = some n) (hnL : nL ≤ 45) (hc : vwCl[ci]? = some (C, T, N))
    (hM : CT E y b nL rt d' (.ref a :: As) wc Qr) (hdd : d' + 1 ≤ M.2.1.2) (hlen : As.length = n) (q0 : Nat) (he : ws[q0]? = some (a, .inr (ci, fs))) (is : List Nat) (hnd : va_nd is = true) (hC : is.map (fun i => ws[i]?) = wc.map some) (hst : st0 = As.reverse ++ .ref a :: rest) (hroom : (rest.map fun v => v.category).sum ≤ 8) (hdg : decode M.1.2.1 pc = .ok (.invokevirtual index, 3)) (hq : pc + 3 = q)
    (kk : ∀ (r : Option Value) (w' : va_W), Qr r w' → G E M (putAt ws is w') q lv (r.toList ++ rest)) : G E M ws pc lv st0 :=
  g_callR hown h1 h2 h3 h4 h5 hd hnL (fun s H locs hK _ hP _ => va_recv hK hP hc he) hM hdd hlen is hnd hC hst hroom hdg hq kk
theorem g_callS {E : EN} {M : MF} {ws : va_W} {pc : Nat} {lv : List (Nat × Value)} {st0 : List Value} {own : String} {index nL n d' q : Nat} {y : MethodName} {b : ByteArray} {rt : Option FieldType} {As rest : List Value} {wc : va_W} {Qr : Option Value → va_W → Prop} (hown : M.1.1 = own) (h1 : Cond.methodLink own index y ∈ TB) (h2 : Cond.static y ∈ TB) (h4 : Cond.initialized y.cls ∈ TB) (h5 : Cond.code y b nL rt ∈ TB) (hd : y.cls ≠ "java/lang/invoke/MethodHandle" ∧ y.cls ≠ "java/lang/invoke/VarHandle" ∧ (parseMethodDescriptor y.desc).map (fun d => d.parameters.length) = some n) (hnL : nL ≤ 45)
    (hM : CT E y b nL rt d' As wc Qr) (hdd : d' + 1 ≤ M.2.1.2) (hlen : As.length = n) (is : List Nat) (hnd : va_nd is = true) (hC : is.map (fun i => ws[i]?) = wc.map some) (hst : st0 = As.reverse ++ rest) (hroom : (rest.map fun v => v.category).sum ≤ 8) (hdg : decode M.1.2.1 pc = .ok (.invokestatic index, 3)) (hq : pc + 3 = q)
    (kk : ∀ (r : Option Value) (w' : va_W), Qr r w' → G E M (putAt ws is w') q lv (r.toList ++ rest)) : G E M ws pc lv st0 := by
  subst hq
  subst hown
  intro p e s m args below meth c C0 H locs ls hP hD hS hl
  have C1 := C0
  obtain ⟨hx, hb, hr, hml, ho, hts, hK, ha, hA, hlk⟩ := C1
  have hFc := va_free hD hS hA is hC
  refine va_callD (va_runS (As := As) (rest := rest) ⟨hx, hb, hml, ho, hts⟩ (hM H.size) (va_cwS n hts (gi_S h1 h2 h4 h5) rfl rfl rfl hd (rm_ok hdd hnL)) ⟨pc_blind, fun U hU hW => pc_at hK ha hA hP hD hS is hnd hC hU hW⟩ rfl hlen hl.1 hst (lv_room hroom) hdg ⟨Nat.le_refl _, Nat.le_refl _⟩) hS (fun q _ h => hFc q h) hFc (fun r w' H1 locs1 hq hw hP1 hk hS1 => ?_)
  obtain ⟨hP2, hD2⟩ := join_put hP hD is hC hw hP1 hk
  exact kk r w' hq p e s m args below meth c C0 H1 locs1 ls hP2 hD2 hS1 hl
theorem g_callSN {E : EN} {M : MF} {ws : va_W} {pc : Nat} {lv : List (Nat × Value)} {st0 : List Value} {own host : String} {index nL n d' q : Nat} {y : MethodName} {b : ByteArray} {rt : Option FieldType} {As rest : List Value} {wc : va_W} {Qr : Option Value → va_W → Prop} (hown : M.1.1 = own) (hN : ∀ (s : State), amb E M.2.2.1 s s.heap → va_Nw (.methodLinkNest own index y host) s) (h2 : Cond.static y ∈ TB) (h4 : Cond.initialized y.cls ∈ TB) (h5 : Cond.code y b nL rt ∈ TB) (hd : y.cls ≠ "java/lang/invoke/MethodHandle" ∧ y.cls ≠ "java/lang/invoke/VarHandle" ∧ (parseMethodDescriptor y.desc).map (fun d => d.parameters.length) = some n) (hnL : nL ≤ 45)
    (hM : CT E y b nL rt d' As wc Qr) (hdd : d' + 1 ≤ M.2.1.2) (hlen : As.length = n) (is : List Nat) (hnd : va_nd is = true) (hC : is.map (fun i => ws[i]?) = wc.map some) (hst : st0 = As.reverse ++ rest) (hroom : (rest.map fun v => v.category).sum ≤ 8) (hdg : decode M.1.2.1 pc = .ok (.invokestatic index, 3)) (hq : pc + 3 = q)
    (kk : ∀ (r : Option Value) (w' : va_W), Qr r w' → G E M (putAt ws is w') q lv (r.toList ++ rest)) : G E M ws pc lv st0 := by
  subst hq
  subst hown
  intro p e s m args below meth c C0 H locs ls hP hD hS hl
  have C1 := C0
  obtain ⟨hx, hb, hr, hml, ho, hts, hK, ha, hA, hlk⟩ := C1
  have hFc := va_free hD hS hA is hC
  refine va_callD (va_runSN (host := host) (As := As) (rest := rest) ⟨hx, hb, hml, ho, hts⟩ (hM H.size) ⟨va_cnB n hts (gi_C h5) rfl rfl rfl (hN s ha) (hts _ h4) hd (rm_ok hdd hnL), hts _ h2, trivial⟩ ⟨pc_blind, fun U hU hW => pc_at hK ha hA hP hD hS is hnd hC hU hW⟩ rfl hlen hl.1 hst (lv_room hroom) hdg ⟨Nat.le_refl _, Nat.le_refl _⟩) hS (fun q _ h => hFc q h) hFc (fun r w' H1 locs1 hq hw hP1 hk hS1 => ?_)
  obtain ⟨hP2, hD2⟩ := join_put hP hD is hC hw hP1 hk
  exact kk r w' hq p e s m args below meth c C0 H1 locs1 ls hP2 hD2 hS1 hl
/-- an exact end: this answer, these cells -/
def xQ (r0 : Option Value) (w0 : va_W) : Option Value → va_W → Prop := fun r w => r = r0 ∧ w = w0
theorem exK {E : EN} {M : MF} {ws ws' w0 : va_W} {q : Nat} {lv : List (Nat × Value)} {st' rest : List Value} {r0 : Option Value} {is : List Nat} (h : putAt ws is w0 = ws') (h2 : r0.toList ++ rest = st') (k : G E M ws' q lv st') : ∀ (r : Option Value) (w' : va_W), xQ r0 w0 r w' → G E M (putAt ws is w') q lv (r.toList ++ rest) := by
  rintro r w' ⟨rfl, rfl⟩
  rw [h, h2]
  exact k
/-- the static tables -/
theorem g_gr {E : EN} {M : MF} {ws : va_W} {pc q : Nat} {lv : List (Nat × Value)} {st : List Value} (hown : M.1.1 = "PoundBoys$Calendar") (hdg : decode M.1.2.1 pc = .ok (.getstatic 56, 3)) (hq : pc + 3 = q) (k : G E M ws q lv (.ref E.2.2.1.1 :: st)) : G E M ws pc lv st := by
  subst hq
  intro p e s m args below meth c C H locs ls hP hD hS hl
  exact va_getsN (C := "PoundBoys") C.1 C.2.1 C.2.2.2.2.2.2.2.1.1.1 hS (hown ▸ C.2.2.2.2.1) (va_Nw.use rfl C.2.2.2.2.2.2.2.1.2.2.2.2.2.2.2) (fun _ h => h) hdg (k p e s m args below meth c C H locs ls hP hD hS hl)
theorem g_koN {E : EN} {M : MF} {ws : va_W} {pc q : Nat} {lv : List (Nat × Value)} {st : List Value} (hown : M.1.1 = "PoundBoys$Folk") (hdg : decode M.1.2.1 pc = .ok (.getstatic 51, 3)) (hq : pc + 3 = q) (k : G E M ws q lv (.ref E.2.2.1.2 :: st)) : G E M ws pc lv st := by
  subst hq
  intro p e s m args below meth c C H locs ls hP hD hS hl
  exact va_getsN (C := "PoundBoys") C.1 C.2.1 C.2.2.2.2.2.2.2.1.2.1.1 hS (hown ▸ C.2.2.2.2.1) (va_Nw.use rfl C.2.2.2.2.2.2.2.1.2.2.2.2.2.2.1) (fun _ h => h) hdg (k p e s m args below meth c C H locs ls hP hD hS hl)
theorem g_ko {E : EN} {M : MF} {ws : va_W} {pc q index : Nat} {lv : List (Nat × Value)} {st : List Value} (hown : M.1.1 = "PoundBoys") (hlink : Cond.fieldLink "PoundBoys" index "PoundBoys" "KIND_OVER" "[I" ∈ TB) (hdg : decode M.1.2.1 pc = .ok (.getstatic index, 3)) (hq : pc + 3 = q) (k : G E M ws q lv (.ref E.2.2.1.2 :: st)) : G E M ws pc lv st := by
  subst hq
  intro p e s m args below meth c C H locs ls hP hD hS hl
  exact va_gets (C := "PoundBoys") C.1 C.2.1 C.2.2.2.2.2.2.2.1.2.1.1 hS (hown ▸ C.2.2.2.2.1) (C.2.2.2.2.2.1 _ hlink) (fun _ h => h) hdg (k p e s m args below meth c C H locs ls hP hD hS hl)
theorem g_grld {E : EN} {M : MF} {ws : va_W} {pc q : Nat} {lv : List (Nat × Value)} {st : List Value} {i : Int32} (hin : vp_in i 4) (hdg : decode M.1.2.1 pc = .ok (.iaload, 1)) (hq : pc + 1 = q) (k : G E M ws q lv (.int (grF i.toNatClampNeg) :: st)) : G E M ws pc lv (.int i :: .ref E.2.2.1.1 :: st) := by
  subst hq
  intro p e s m args below meth c C H locs ls hP hD hS hl
  exact va_ti C.1 C.2.1 C.2.2.2.2.2.2.2.1.1.2 hS hin rfl hdg (k p e s m args below meth c C H locs ls hP hD hS hl)
theorem g_kold {E : EN} {M : MF} {ws : va_W} {pc q : Nat} {lv : List (Nat × Value)} {st : List Value} {i : Int32} (hin : vp_in i 5) (hdg : decode M.1.2.1 pc = .ok (.iaload, 1)) (hq : pc + 1 = q) (k : G E M ws q lv (.int (koF i.toNatClampNeg) :: st)) : G E M ws pc lv (.int i :: .ref E.2.2.1.2 :: st) := by
  subst hq
  intro p e s m args below meth c C H locs ls hP hD hS hl
  exact va_ti C.1 C.2.1 C.2.2.2.2.2.2.2.1.2.1.2 hS hin rfl hdg (k p e s m args below meth c C H locs ls hP hD hS hl)
theorem g_kolen {E : EN} {M : MF} {ws : va_W} {pc q : Nat} {lv : List (Nat × Value)} {st : List Value} (hdg : decode M.1.2.1 pc = .ok (.arraylength, 1)) (hq : pc + 1 = q) (k : G E M ws q lv (.int 5 :: st)) : G E M ws pc lv (.ref E.2.2.1.2 :: st) := by
  subst hq
  intro p e s m args below meth c C H locs ls hP hD hS hl
  exact va_tlen C.1 C.2.1 C.2.2.2.2.2.2.2.1.2.1.2 hS rfl hdg (k p e s m args below meth c C H locs ls hP hD hS hl)
theorem g_copy {E : EN} {M : MF} {ws ws' : va_W} {pc q : Nat} {lv : List (Nat × Value)} {st : List Value} {own : String} {index a a0 n0 n1 : Nat} {f g g' : Nat → Int32} {sp dp n : Int32} (hown : M.1.1 = own) (hlink : Cond.methodLink own index arraycopyName ∈ TB) (hnat : Cond.native arraycopyName ∈ TB) (hstat : Cond.static arraycopyName ∈ TB) (hini : Cond.initialized "java/lang/System" ∈ TB)
    (q0 q1 : Nat) (ha0 : ws[q0]? = some (a0, .inl (E.2.1.1, n0, .inl f))) (ha1 : ws[q1]? = some (a, .inl (E.2.1.1, n1, .inl g))) (h1 : ¬ sp < 0) (h2 : ¬ dp < 0) (h3 : ¬ n < 0) (h4 : sp.toNatClampNeg + n.toNatClampNeg ≤ n0) (h5 : dp.toNatClampNeg + n.toNatClampNeg ≤ n1) (hd : 1 ≤ M.2.1.2) (hroom : (st.map fun v => v.category).sum + (nativeFrameWords "java/lang/System" "arraycopy" 5 + 11) ≤ 64 * M.2.1.2)
    (hf : va_cpy f g sp.toNatClampNeg dp.toNatClampNeg n.toNatClampNeg = g') (hws : ws.set q1 (a, .inl (E.2.1.1, n1, .inl g')) = ws') (hdg : decode M.1.2.1 pc = .ok (.invokestatic index, 3)) (hq : pc + 3 = q) (k : G E M ws' q lv st) : G E M ws pc lv (.int n :: .int dp :: .ref a :: .int sp :: .ref a0 :: st) := by
  subst hq
  subst hown
  subst hf
  subst hws
  intro p e s m args below meth c C H locs ls hP hD hS hl
  exact va_copyi C.1 C.2.1 (C.2.2.2.1.trans hl.1.symm) C.2.2.2.2.1 (C.2.2.2.2.2.1 _ hlink) (C.2.2.2.2.2.1 _ hnat) (C.2.2.2.2.2.1 _ hstat) (C.2.2.2.2.2.1 _ hini) C.2.2.2.2.2.2.1 hP hD hS q0 q1 0 0 ha0 ha1 rfl rfl rfl h1 h2 h3 h4 h5 (fun _ _ => rfl) hd hroom hdg (fun H1 locs1 hP1 hD1 hS1 => k p e s m args below meth c C H1 locs1 ls hP1 hD1 hS1 hl)
theorem g_loop {E : EN} {M : MF} (n : Nat) (wF : Nat → va_W) (lF : Nat → List (Nat × Value)) {pc : Nat} {st : List Value} (step : ∀ i, i < n → G E M (wF (i + 1)) pc (lF (i + 1)) st → G E M (wF i) pc (lF i) st) (exit : G E M (wF n) pc (lF n) st) : ∀ i, i ≤ n → G E M (wF i) pc (lF i) st := by
  have h : ∀ k i, i + k = n → G E M (wF i) pc (lF i) st := by
    intro k
    induction k with
    | zero => intro i hi; have e : i = n := hi; rw [e]; exact exit
    | succ k ih => intro i hi; exact step i (by omega) (ih (i + 1) (by omega))
  exact fun i hi => h (n - i) i (by omega)
