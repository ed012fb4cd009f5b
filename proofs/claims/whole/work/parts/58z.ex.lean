theorem exOrD {α β : Type} {E : EN} {M : MF} {ws : va_W} {q : Nat} {lv : List (Nat × Value)} {rest : List Value} {r1 : Option Value} {r2 : β → Option Value} {is : List Nat} {P1 : α → Prop} {P2 : β → Prop} {w1 : α → va_W} {w2 : β → va_W} (ha : ascB 0 is = true) (k1 : ∀ a, P1 a → G E M (putM 0 ws is (w1 a)) q lv (r1.toList ++ rest)) (k2 : ∀ b, P2 b → G E M (putM 0 ws is (w2 b)) q lv ((r2 b).toList ++ rest)) : ∀ (r : Option Value) (w' : va_W), (∃ a, P1 a ∧ xQ r1 (w1 a) r w') ∨ (∃ b, P2 b ∧ xQ (r2 b) (w2 b) r w') → G E M (putAt ws is w') q lv (r.toList ++ rest) := by
  rintro r w' (⟨a, h, rfl, rfl⟩ | ⟨a, h, rfl, rfl⟩)
  · rw [putAt_M ha]; exact k1 a h
  · rw [putAt_M ha]; exact k2 a h
def dCell : Nat × va_E := (0, .inr (0, []))
theorem putAt_fold : ∀ (is : List Nat) (ws w1 : va_W), putAt ws is w1 = (is.zip w1).foldl (fun (w : va_W) (p : Nat × (Nat × va_E)) => w.set p.1 p.2) ws
  | [], ws, w1 => by cases w1 <;> rfl
  | i :: is, ws, [] => rfl
  | i :: is, ws, c :: cs => putAt_fold is (ws.set i c) cs
theorem zip_range {is : List Nat} {w1 : va_W} (hl : w1.length = is.length) : is.zip w1 = (List.range is.length).map (fun j => (is.getD j 0, w1.getD j dCell)) := by
  apply List.ext_getElem?
  intro k
  by_cases hk : k < is.length
  · have hk2 : k < w1.length := by omega
    rw [List.getElem?_map, List.getElem?_range hk, List.getElem?_eq_getElem (by simp; omega)]
    simp [List.getElem_zip, hk, hk2]
  · rw [List.getElem?_eq_none (by simp; omega), List.getElem?_eq_none (by simp; omega)]
theorem putAt_pi {ws w1 : va_W} {is : List Nat} (pi : List Nat) (hn : is.Nodup) (hl : w1.length = is.length) (hp : (List.range is.length).Perm pi) : putAt ws is w1 = putAt ws (pi.map (fun j => is.getD j 0)) (pi.map (fun j => w1.getD j dCell)) := by
  rw [putAt_fold, putAt_fold, List.zip_map', zip_range hl]
  have hq := hp.map (fun j => (is.getD j 0, w1.getD j dCell))
  refine List.Perm.foldl_eq' hq ?_ ws
  intro x hx y hy z
  obtain ⟨a, ha, rfl⟩ := List.mem_map.mp hx
  obtain ⟨b, hb, rfl⟩ := List.mem_map.mp hy
  by_cases h : a = b
  · subst h; rfl
  · have ha := List.mem_range.mp ha
    have hb := List.mem_range.mp hb
    have hne : ¬ is.getD a 0 = is.getD b 0 := by
      intro e
      rw [List.getD_eq_getElem?_getD, List.getD_eq_getElem?_getD, List.getElem?_eq_getElem ha, List.getElem?_eq_getElem hb] at e
      have hpw := List.pairwise_iff_getElem.mp hn
      rcases Nat.lt_or_gt_of_ne h with q | q
      · exact hpw a b ha hb q e
      · exact hpw b a hb ha q e.symm
    first
      | exact List.set_comm _ _ hne
      | exact (List.set_comm _ _ hne).symm
      | exact List.set_comm _ _ (fun e => hne e.symm)
      | exact (List.set_comm _ _ (fun e => hne e.symm)).symm
theorem exKQ {E : EN} {M : MF} {ws ws' w0 : va_W} {q : Nat} {lv : List (Nat × Value)} {st' rest : List Value} {r0 : Option Value} {is : List Nat} (pi is2 : List Nat) (w2 : va_W) (hn : is.Nodup) (hl : w0.length = is.length) (hp : (List.range is.length).Perm pi) (h2 : pi.map (fun j => is.getD j 0) = is2) (h3 : pi.map (fun j => w0.getD j dCell) = w2) (ha : ascB 0 is2 = true) (h : putM 0 ws is2 w2 = ws') (h4 : r0.toList ++ rest = st') (k : G E M ws' q lv st') : ∀ (r : Option Value) (w' : va_W), xQ r0 w0 r w' → G E M (putAt ws is w') q lv (r.toList ++ rest) := by
  refine exK ?_ h4 k
  rw [putAt_pi pi hn hl hp, h2, h3, putAt_M ha, h]
