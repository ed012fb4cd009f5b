theorem x_top {E : EN} {X : XT} {kn : Nat × Nat} {ws : va_W} {pc : Nat} {lv : List (Nat × Value)} {st : List Value} {x : Int32} (y : Int32) (h : x = y) (k : GW E X kn ws pc lv (.int y :: st)) : GW E X kn ws pc lv (.int x :: st) := by rw [h]; exact k
theorem gt5 {L i : Nat} (hL : L ≤ 2560) (hi : i ≤ 3000) (h : ¬ nI L - nI 5 < nI i) : i + 5 ≤ L := by
  by_cases h5 : 5 ≤ L
  · rw [pk_sub h5] at h
    have h1 : ¬ L - 5 < i := fun z => h ((nI_ltI (by omega) (by omega)).mpr z)
    omega
  · exfalso
    apply h
    rw [Int32.lt_iff_toInt_lt, nI_toInt (n := i) (by omega)]
    have h0 : ∀ k, k < 5 → (nI k - nI 5).toInt < 0 := by decide
    have h1 := h0 L (by omega)
    omega
theorem and31 (x : Int32) : ∃ k, k < 32 ∧ x &&& nI 31 = nI k := by
  have hlt : (x &&& nI 31).toBitVec.toNat < 32 := by
    rw [Int32.toBitVec_and, BitVec.toNat_and]
    have h : (nI 31).toBitVec.toNat = 31 := by decide
    rw [h]
    exact Nat.lt_succ_of_le Nat.and_le_right
  refine ⟨(x &&& nI 31).toBitVec.toNat, hlt, ?_⟩
  apply Int32.toBitVec_inj.mp
  apply BitVec.eq_of_toNat_eq
  rw [show (nI ((x &&& nI 31).toBitVec.toNat)).toBitVec.toNat = (x &&& nI 31).toBitVec.toNat from pk_tn (by omega)]
set_option maxHeartbeats 4000000 in
set_option maxRecDepth 40000 in
theorem law_loop {E : EN} {ad : Nat → Nat} {Y : Program × Env × State × MethodId × Array Value × List Frame × Method × Code} {A : Nat → Prop} {Q : State → Prop} {b L : Nat} {xs : Nat → Int32} (C : CX E (Y, (RL, cL_law, 4), room_1, A, Q)) (hX : va_X b L xs Y.2.2.1 Y.2.2.1.heap) (hbl : b < Y.2.2.1.heap.size) (hbA : ¬ A b) (hL : L ≤ 2560) (hend : ∀ (ws : va_W) (lv : List (Nat × Value)), GW E (Y, (RL, cL_law, 4), room_1, A, Q) (105, 2555) ws 921 lv [.int (nI 1)]) : ∀ (n i : Nat), i ≤ L + 5 → L + 6 ≤ i + n → ∀ {nt lw sl nb : Nat} {cr rt fd : Nat → Nat} {wn : Nat → Int32} {nx kd bto bwo bso bgo nxm : Nat → Nat} {tl : Nat} {tx : Nat → Nat} {yr : Nat} {tw wt sk gr : Nat → Nat} {ch : Nat → Int32} {en : Nat} {eb eg : Nat → Nat} {sn : Nat} {st_ sb sw : Nat → Nat} {dn : Nat} {dw dc : Nat → Nat} {K0 K1 : KT} {li fo sa ren dy : Int32} {nu : Nat → Nat} {D : LSt} {dC sen : Nat → Int32} {bs bc : Nat} {be r wo : Nat → Nat} {an ay : Nat} {akd : Nat → Nat} {aS : YS} {bn by_ : Nat} {bkd : Nat → Nat} {bS : YS} {orf : Nat → Nat} {fq : Nat → Int32} {T : Nat → Nat} {po ta dg mnu fa rm_ rto rbo ga : Int32} {tk : Int64} {rd as_ gh ow : Nat → Int32} {mch mbe mrw : Nat → Nat}, Inv nt lw sl nb cr rt fd wn nx kd bto bwo bso bgo nxm tl tx yr tw wt sk gr ch en eb eg sn st_ sb sw dn dw dc K0 K1 → (∀ k, mch k ≤ 11) → (∀ k, mrw k ≤ 11) → GW E (Y, (RL, cL_law, 4), room_1, A, Q) (105, 2555) (WL E ad nt lw sl nb cr rt fd wn nx kd bto bwo bso bgo nxm tl tx yr tw wt sk gr ch en eb eg sn st_ sb sw dn dw dc K0 K1 li fo sa ren dy nu D dC sen bs bc be r wo an ay akd aS bn by_ bkd bS orf fq T po ta dg mnu fa rm_ rto rbo ga tk rd as_ gh ow mch mbe mrw) 18 [(0, .ref b), (1, .ref (ad 0)), (2, .ref (ad 87)), (3, .int (nI (i)))] [] := by
  intro n
  induction n with
  | zero => intro i h1 h2; exact absurd h2 (by omega)
  | succ n IH =>
    intro i h1 h2 nt lw sl nb cr rt fd wn nx kd bto bwo bso bgo nxm tl tx yr tw wt sk gr ch en eb eg sn st_ sb sw dn dw dc K0 K1 li fo sa ren dy nu D dC sen bs bc be r wo an ay akd aS bn by_ bkd bS orf fq T po ta dg mnu fa rm_ rto rbo ga tk rd as_ gh ow mch mbe mrw I hch hrw
    refine x_iload_n C (q := 19) dL_law_18 rfl rfl rfl ?_
    refine x_aload_n C (q := 20) dL_law_19 rfl rfl rfl ?_
    refine x_slen C hX hbl hbA (q := 21) dL_law_20 rfl ?_
    refine x_iconst C (v := nI 5) (q := 22) dL_law_21 rfl (by decide) ?_
    refine x_isub C (q := 23) dL_law_22 rfl ?_
    refine x_icmp_gt C (t := 920) (q := 26) dL_law_23 (by decide) rfl (fun _ => ?_) (fun c => ?_)
    · refine x_iconst C (v := nI 1) (q := 921) dL_law_920 rfl (by decide) ?_
      exact hend _ _
    · have hi : i + 5 ≤ L := gt5 hL (by omega) c
      refine x_aload_n C (q := 27) dL_law_26 rfl rfl rfl ?_
      refine x_iload_n C (q := 28) dL_law_27 rfl rfl rfl ?_
      refine x_sld C hX hbl hbA (j := i) (by omega) (by omega) (q := 29) dL_law_28 rfl ?_
      refine x_bipush C (v := nI 31) (q := 31) dL_law_29 rfl (by decide) ?_
      refine x_iand C (q := 32) dL_law_31 rfl ?_
      have ih : ∀ {nt lw sl nb : Nat} {cr rt fd : Nat → Nat} {wn : Nat → Int32} {nx kd bto bwo bso bgo nxm : Nat → Nat} {tl : Nat} {tx : Nat → Nat} {yr : Nat} {tw wt sk gr : Nat → Nat} {ch : Nat → Int32} {en : Nat} {eb eg : Nat → Nat} {sn : Nat} {st_ sb sw : Nat → Nat} {dn : Nat} {dw dc : Nat → Nat} {K0 K1 : KT} {li fo sa ren dy : Int32} {nu : Nat → Nat} {D : LSt} {dC sen : Nat → Int32} {bs bc : Nat} {be r wo : Nat → Nat} {an ay : Nat} {akd : Nat → Nat} {aS : YS} {bn by_ : Nat} {bkd : Nat → Nat} {bS : YS} {orf : Nat → Nat} {fq : Nat → Int32} {T : Nat → Nat} {po ta dg mnu fa rm_ rto rbo ga : Int32} {tk : Int64} {rd as_ gh ow : Nat → Int32} {mch mbe mrw : Nat → Nat}, Inv nt lw sl nb cr rt fd wn nx kd bto bwo bso bgo nxm tl tx yr tw wt sk gr ch en eb eg sn st_ sb sw dn dw dc K0 K1 → (∀ k, mch k ≤ 11) → (∀ k, mrw k ≤ 11) → GW E (Y, (RL, cL_law, 4), room_1, A, Q) (105, 2555) (WL E ad nt lw sl nb cr rt fd wn nx kd bto bwo bso bgo nxm tl tx yr tw wt sk gr ch en eb eg sn st_ sb sw dn dw dc K0 K1 li fo sa ren dy nu D dC sen bs bc be r wo an ay akd aS bn by_ bkd bS orf fq T po ta dg mnu fa rm_ rto rbo ga tk rd as_ gh ow mch mbe mrw) 914 [(0, .ref b), (1, .ref (ad 0)), (2, .ref (ad 87)), (3, .int (nI i))] [] := by
        intro nt lw sl nb cr rt fd wn nx kd bto bwo bso bgo nxm tl tx yr tw wt sk gr ch en eb eg sn st_ sb sw dn dw dc K0 K1 li fo sa ren dy nu D dC sen bs bc be r wo an ay akd aS bn by_ bkd bS orf fq T po ta dg mnu fa rm_ rto rbo ga tk rd as_ gh ow mch mbe mrw I hch hrw
        refine x_iinc C (lv' := [(0, .ref b), (1, .ref (ad 0)), (2, .ref (ad 87)), (3, .int (nI (i + 5)))]) (v := nI (i + 5)) (q := 917) dL_law_914 rfl rfl (by rw [show Int32.ofInt 5 = nI 5 by decide, nI_add]) (Nat.le_of_ble_eq_true rfl) rfl ?_
        refine x_goto C (q := 18) dL_law_917 (by decide) ?_
        exact IH (i + 5) (by omega) (by omega) I hch hrw
      obtain ⟨k, hk, hke⟩ := and31 (xs i)
      refine x_top (nI k) hke ?_
      by_cases hk28 : k < 28
      · rcases (show k = 0 ∨ k = 1 ∨ k = 2 ∨ k = 3 ∨ k = 4 ∨ k = 5 ∨ k = 6 ∨ k = 7 ∨ k = 8 ∨ k = 9 ∨ k = 10 ∨ k = 11 ∨ k = 12 ∨ k = 13 ∨ k = 14 ∨ k = 15 ∨ k = 16 ∨ k = 17 ∨ k = 18 ∨ k = 19 ∨ k = 20 ∨ k = 21 ∨ k = 22 ∨ k = 23 ∨ k = 24 ∨ k = 25 ∨ k = 26 ∨ k = 27 by omega) with rfl | rfl | rfl | rfl | rfl | rfl | rfl | rfl | rfl | rfl | rfl | rfl | rfl | rfl | rfl | rfl | rfl | rfl | rfl | rfl | rfl | rfl | rfl | rfl | rfl | rfl | rfl | rfl
        · refine x_tableIn C (off := 128) (q := 160) dL_law_32 (by decide) (by decide) (by decide) (by decide) ?_
          exact k_write C hX hbl hbA hL hi I hch hrw ih
        · refine x_tableIn C (off := 191) (q := 223) dL_law_32 (by decide) (by decide) (by decide) (by decide) ?_
          exact k_erase C hX hbl hbA hL hi I hch hrw ih
        · refine x_tableIn C (off := 204) (q := 236) dL_law_32 (by decide) (by decide) (by decide) (by decide) ?_
          exact k_fault C hX hbl hbA hL hi I hch hrw ih
        · refine x_tableIn C (off := 217) (q := 249) dL_law_32 (by decide) (by decide) (by decide) (by decide) ?_
          exact k_league C hX hbl hbA hL hi I hch hrw ih
        · refine x_tableIn C (off := 230) (q := 262) dL_law_32 (by decide) (by decide) (by decide) (by decide) ?_
          exact k_town C hX hbl hbA hL hi I hch hrw ih
        · refine x_tableIn C (off := 263) (q := 295) dL_law_32 (by decide) (by decide) (by decide) (by decide) ?_
          exact k_boy C hX hbl hbA hL hi I hch hrw ih
        · refine x_tableIn C (off := 296) (q := 328) dL_law_32 (by decide) (by decide) (by decide) (by decide) ?_
          exact k_as C hX hbl hbA hL hi I hch hrw ih
        · refine x_tableIn C (off := 329) (q := 361) dL_law_32 (by decide) (by decide) (by decide) (by decide) ?_
          exact k_give C hX hbl hbA hL hi I hch hrw ih
        · refine x_tableIn C (off := 362) (q := 394) dL_law_32 (by decide) (by decide) (by decide) (by decide) ?_
          exact k_drop C hX hbl hbA hL hi I hch hrw ih
        · refine x_tableIn C (off := 375) (q := 407) dL_law_32 (by decide) (by decide) (by decide) (by decide) ?_
          exact k_balance C hX hbl hbA hL hi I hch hrw ih
        · refine x_tableIn C (off := 398) (q := 430) dL_law_32 (by decide) (by decide) (by decide) (by decide) ?_
          exact k_judge C hX hbl hbA hL hi I hch hrw ih
        · refine x_tableIn C (off := 411) (q := 443) dL_law_32 (by decide) (by decide) (by decide) (by decide) ?_
          exact k_deal C hX hbl hbA hL hi I hch hrw ih
        · refine x_tableIn C (off := 424) (q := 456) dL_law_32 (by decide) (by decide) (by decide) (by decide) ?_
          exact k_ring C hX hbl hbA hL hi I hch hrw ih
        · refine x_tableIn C (off := 447) (q := 479) dL_law_32 (by decide) (by decide) (by decide) (by decide) ?_
          exact k_go C hX hbl hbA hL hi I hch hrw ih
        · refine x_tableIn C (off := 470) (q := 502) dL_law_32 (by decide) (by decide) (by decide) (by decide) ?_
          exact k_keep C hX hbl hbA hL hi I hch hrw ih
        · refine x_tableIn C (off := 493) (q := 525) dL_law_32 (by decide) (by decide) (by decide) (by decide) ?_
          exact k_back C hX hbl hbA hL hi I hch hrw ih
        · refine x_tableIn C (off := 516) (q := 548) dL_law_32 (by decide) (by decide) (by decide) (by decide) ?_
          exact k_later C hX hbl hbA hL hi I hch hrw ih
        · refine x_tableIn C (off := 559) (q := 591) dL_law_32 (by decide) (by decide) (by decide) (by decide) ?_
          exact k_without C hX hbl hbA hL hi I hch hrw ih
        · refine x_tableIn C (off := 582) (q := 614) dL_law_32 (by decide) (by decide) (by decide) (by decide) ?_
          exact k_owed C hX hbl hbA hL hi I hch hrw ih
        · refine x_tableIn C (off := 615) (q := 647) dL_law_32 (by decide) (by decide) (by decide) (by decide) ?_
          exact k_pays C hX hbl hbA hL hi I hch hrw ih
        · refine x_tableIn C (off := 668) (q := 700) dL_law_32 (by decide) (by decide) (by decide) (by decide) ?_
          exact k_gainers C hX hbl hbA hL hi I hch hrw ih
        · refine x_tableIn C (off := 711) (q := 743) dL_law_32 (by decide) (by decide) (by decide) (by decide) ?_
          exact k_weigh C hX hbl hbA hL hi I hch hrw ih
        · refine x_tableIn C (off := 754) (q := 786) dL_law_32 (by decide) (by decide) (by decide) (by decide) ?_
          exact k_forget C hX hbl hbA hL hi I hch hrw ih
        · refine x_tableIn C (off := 767) (q := 799) dL_law_32 (by decide) (by decide) (by decide) (by decide) ?_
          exact k_scales C hX hbl hbA hL hi I hch hrw ih
        · refine x_tableIn C (off := 790) (q := 822) dL_law_32 (by decide) (by decide) (by decide) (by decide) ?_
          exact k_road C hX hbl hbA hL hi I hch hrw ih
        · refine x_tableIn C (off := 823) (q := 855) dL_law_32 (by decide) (by decide) (by decide) (by decide) ?_
          exact k_arrive C hX hbl hbA hL hi I hch hrw ih
        · refine x_tableIn C (off := 836) (q := 868) dL_law_32 (by decide) (by decide) (by decide) (by decide) ?_
          exact k_who C hX hbl hbA hL hi I hch hrw ih
        · refine x_tableIn C (off := 859) (q := 891) dL_law_32 (by decide) (by decide) (by decide) (by decide) ?_
          exact k_count C hX hbl hbA hL hi I hch hrw ih
      · refine x_tableOut C (q := 914) dL_law_32 (Or.inr ?_) (by decide) ?_
        · rw [nI_toInt (by omega)]; omega
        · exact ih I hch hrw
