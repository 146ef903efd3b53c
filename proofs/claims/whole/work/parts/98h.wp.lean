theorem wp_number {d : Nat} {X : Nat × (Nat → Int32)} {S : Nat → Nat → Int32} {L : Nat → Int64} {b : Nat → Int32} {len a : Nat} {p q : Int32} {Q : Option Value → am_H → Prop} (ha : S 285 21 = nI a) (ha1 : a < 2 ^ 31) (hl : S 285 5 = nI len) (hl1 : len ≤ 100) (hb : ∀ i, i < 100 → S 289 i = b i) (ha2 : a ≤ 100)  (x1 : ∀ w : Nat, w ≤ 100 → (∀ i, i < w → fg b len (a + i)) → ¬ fg b len (a + w) → (S 285 23) = 0 → ¬ (nI w) < 1 ∧ ¬ 2 < (nI w) → ¬ (nI w) = 1 → a < 100) (x2 : ∀ w : Nat, w ≤ 100 → (∀ i, i < w → fg b len (a + i)) → ¬ fg b len (a + w) → (S 285 23) = 0 → ¬ (nI w) < 1 ∧ ¬ 2 < (nI w) → ¬ (nI w) = 1 → (a + 1) < 100) (x3 : ∀ w : Nat, w ≤ 100 → (∀ i, i < w → fg b len (a + i)) → ¬ fg b len (a + w) → (S 285 23) = 0 → ¬ (nI w) < 1 ∧ ¬ 2 < (nI w) → (nI w) = 1 → a < 100) (k1 : ∀ w : Nat, w ≤ 100 → (∀ i, i < w → fg b len (a + i)) → ¬ fg b len (a + w) → ¬ (S 285 23) = 0 → Q (some (.int 0)) (am_hh X S L)) (k2 : ∀ w : Nat, w ≤ 100 → (∀ i, i < w → fg b len (a + i)) → ¬ fg b len (a + w) → (S 285 23) = 0 → ¬ (nI w) < 1 ∧ ¬ 2 < (nI w) → ¬ (nI w) = 1 → ¬ (((10 * ((S 289 a) - 48)) + (S 289 (a + 1))) - 48) < p ∧ ¬ q < (((10 * ((S 289 a) - 48)) + (S 289 (a + 1))) - 48) → Q (some (.int (((10 * ((S 289 a) - 48)) + (S 289 (a + 1))) - 48))) (am_hh X (am_u S 285 21 ((S 285 21) + (nI w))) L)) (k3 : ∀ w : Nat, w ≤ 100 → (∀ i, i < w → fg b len (a + i)) → ¬ fg b len (a + w) → (S 285 23) = 0 → ¬ (nI w) < 1 ∧ ¬ 2 < (nI w) → ¬ (nI w) = 1 → ¬ (¬ (((10 * ((S 289 a) - 48)) + (S 289 (a + 1))) - 48) < p ∧ ¬ q < (((10 * ((S 289 a) - 48)) + (S 289 (a + 1))) - 48)) → Q (some (.int 0)) (am_hh X (am_u (am_u S 285 23 2) 285 22 (S 285 21)) L)) (k4 : ∀ w : Nat, w ≤ 100 → (∀ i, i < w → fg b len (a + i)) → ¬ fg b len (a + w) → (S 285 23) = 0 → ¬ (nI w) < 1 ∧ ¬ 2 < (nI w) → (nI w) = 1 → ¬ ((S 289 a) - 48) < p ∧ ¬ q < ((S 289 a) - 48) → Q (some (.int ((S 289 a) - 48))) (am_hh X (am_u S 285 21 ((S 285 21) + (nI w))) L)) (k5 : ∀ w : Nat, w ≤ 100 → (∀ i, i < w → fg b len (a + i)) → ¬ fg b len (a + w) → (S 285 23) = 0 → ¬ (nI w) < 1 ∧ ¬ 2 < (nI w) → (nI w) = 1 → ¬ (¬ ((S 289 a) - 48) < p ∧ ¬ q < ((S 289 a) - 48)) → Q (some (.int 0)) (am_hh X (am_u (am_u S 285 23 2) 285 22 (S 285 21)) L)) (k6 : ∀ w : Nat, w ≤ 100 → (∀ i, i < w → fg b len (a + i)) → ¬ fg b len (a + w) → (S 285 23) = 0 → ¬ (¬ (nI w) < 1 ∧ ¬ 2 < (nI w)) → Q (some (.int 0)) (am_hh X (am_u (am_u S 285 23 1) 285 22 (S 285 21)) L)) : am_mt (d + 3) 163 [.ref 285, .int p, .int q] (am_hh X S L) Q := by
  refine ax_in (ls := [some (.ref 285), some (.int p), some (.int q), none, none]) rfl ?_
  refine ax_s (pc' := 1) (st' := [.ref 285]) rfl rfl rfl rfl ?_
  refine ax_call (vs := [.ref 285]) (rr := []) rfl rfl rfl ?_
  refine mt_figures (b := b) ha ha1 ha2 hl hl1 hb (fun w w1 w2 w3 => ?_)
  show am_ex (d + 3) 163 4 [some (.ref 285), some (.int p), some (.int q), none, none] [.int (nI w)] (am_hh X S L) _
  refine ax_s (pc' := 5) (ls' := [some (.ref 285), some (.int p), some (.int q), some (.int (nI w)), none]) (st' := []) rfl rfl rfl rfl ?_
  refine ax_s (pc' := 6) (st' := [.ref 285]) rfl rfl rfl rfl ?_
  refine ax_get rfl (hh_285 _ _ _) rfl rfl rfl ?_
  show am_ex (d + 3) 163 9 [some (.ref 285), some (.int p), some (.int q), some (.int (nI w)), none] [.int (S 285 23)] (am_hh X S L) _
  refine ax_if_ne rfl (fun c1 => ?_) (fun c1 => ?_)
  · refine ax_s (pc' := 22) (st' := [.ref 285]) rfl rfl rfl rfl ?_
    refine ax_s (pc' := 23) (st' := [.int 1, .ref 285]) rfl rfl rfl rfl ?_
    refine ax_call (vs := [.ref 285, .int 1]) (rr := []) rfl rfl rfl ?_
    refine ax_in (ls := [some (.ref 285), some (.int 1)]) rfl ?_
    refine ax_s (pc' := 1) (st' := [.ref 285]) rfl rfl rfl rfl ?_
    refine ax_get rfl (hh_285 _ _ _) rfl rfl rfl ?_
    show am_ex (d + 2) 162 4 [some (.ref 285), some (.int 1)] [.int (S 285 23)] (am_hh X S L) _
    refine ax_if_ne rfl (fun c2 => ?_) (fun c2 => False.elim (by first | exact c2 c1 | exact c1 c2))
    refine ax_r rfl rfl rfl ?_
    show am_ex (d + 3) 163 26 [some (.ref 285), some (.int p), some (.int q), some (.int (nI w)), none] [] (am_hh X S L) _
    refine ax_s (pc' := 27) (st' := [.int 0]) rfl rfl rfl rfl ?_
    refine ax_r rfl rfl rfl ?_
    exact k1 w w1 w2 w3 c1
  · refine ax_s (pc' := 13) (st' := [.int (nI w)]) rfl rfl rfl rfl ?_
    refine ax_s (pc' := 14) (st' := [.int 1, .int (nI w)]) rfl rfl rfl rfl ?_
    refine ax_s (pc' := 15) (st' := [.int 2, .int 1, .int (nI w)]) rfl rfl rfl rfl ?_
    refine ax_call (vs := [.int (nI w), .int 1, .int 2]) (rr := []) rfl rfl rfl ?_
    refine mt_in ?_
    show am_ex (d + 3) 163 18 [some (.ref 285), some (.int p), some (.int q), some (.int (nI w)), none] [.int (bI (decide (¬ (nI w) < 1 ∧ ¬ 2 < (nI w))))] (am_hh X S L) _
    refine ax_pT rfl (fun c3 => ?_) (fun c3 => ?_)
    · refine ax_s (pc' := 29) (st' := [.int (nI w)]) rfl rfl rfl rfl ?_
      refine ax_s (pc' := 30) (st' := [.int 1, .int (nI w)]) rfl rfl rfl rfl ?_
      refine ax_cmp_ne rfl (fun c4 => ?_) (fun c4 => ?_)
      · refine ax_s (pc' := 50) (st' := [.int 10]) rfl rfl rfl rfl ?_
        refine ax_s (pc' := 51) (st' := [.ref 285, .int 10]) rfl rfl rfl rfl ?_
        refine ax_get rfl (hh_285 _ _ _) rfl rfl rfl ?_
        show am_ex (d + 3) 163 54 [some (.ref 285), some (.int p), some (.int q), some (.int (nI w)), none] [.ref 289, .int 10] (am_hh X S L) _
        refine ax_s (pc' := 55) (st' := [.ref 285, .ref 289, .int 10]) rfl rfl rfl rfl ?_
        refine ax_get rfl (hh_285 _ _ _) rfl rfl rfl ?_
        show am_ex (d + 3) 163 58 [some (.ref 285), some (.int p), some (.int q), some (.int (nI w)), none] [.int (S 285 21), .ref 289, .int 10] (am_hh X S L) _
        refine ax_ald (j := a) (v := (S 289 a)) rfl (hh_289 _ _ _) rfl ha (x1 w w1 w2 w3 c1 c3 c4) (by decide) rfl ?_
        refine ax_s (pc' := 61) (st' := [.int 48, .int (S 289 a), .int 10]) rfl rfl rfl rfl ?_
        refine ax_s (pc' := 62) (st' := [.int ((S 289 a) - 48), .int 10]) rfl rfl rfl rfl ?_
        refine ax_s (pc' := 63) (st' := [.int (10 * ((S 289 a) - 48))]) rfl rfl rfl rfl ?_
        refine ax_s (pc' := 64) (st' := [.ref 285, .int (10 * ((S 289 a) - 48))]) rfl rfl rfl rfl ?_
        refine ax_get rfl (hh_285 _ _ _) rfl rfl rfl ?_
        show am_ex (d + 3) 163 67 [some (.ref 285), some (.int p), some (.int q), some (.int (nI w)), none] [.ref 289, .int (10 * ((S 289 a) - 48))] (am_hh X S L) _
        refine ax_s (pc' := 68) (st' := [.ref 285, .ref 289, .int (10 * ((S 289 a) - 48))]) rfl rfl rfl rfl ?_
        refine ax_get rfl (hh_285 _ _ _) rfl rfl rfl ?_
        show am_ex (d + 3) 163 71 [some (.ref 285), some (.int p), some (.int q), some (.int (nI w)), none] [.int (S 285 21), .ref 289, .int (10 * ((S 289 a) - 48))] (am_hh X S L) _
        refine ax_s (pc' := 72) (st' := [.int 1, .int (S 285 21), .ref 289, .int (10 * ((S 289 a) - 48))]) rfl rfl rfl rfl ?_
        refine ax_s (pc' := 73) (st' := [.int ((S 285 21) + 1), .ref 289, .int (10 * ((S 289 a) - 48))]) rfl rfl rfl rfl ?_
        refine ax_ald (j := (a + 1)) (v := (S 289 (a + 1))) rfl (hh_289 _ _ _) rfl (am_na (x := a) (y := 1) ha rfl) (x2 w w1 w2 w3 c1 c3 c4) (by decide) rfl ?_
        refine ax_s (pc' := 75) (st' := [.int ((10 * ((S 289 a) - 48)) + (S 289 (a + 1)))]) rfl rfl rfl rfl ?_
        refine ax_s (pc' := 77) (st' := [.int 48, .int ((10 * ((S 289 a) - 48)) + (S 289 (a + 1)))]) rfl rfl rfl rfl ?_
        refine ax_s (pc' := 78) (st' := [.int (((10 * ((S 289 a) - 48)) + (S 289 (a + 1))) - 48)]) rfl rfl rfl rfl ?_
        refine ax_s (pc' := 80) (ls' := [some (.ref 285), some (.int p), some (.int q), some (.int (nI w)), some (.int (((10 * ((S 289 a) - 48)) + (S 289 (a + 1))) - 48))]) (st' := []) rfl rfl rfl rfl ?_
        refine ax_s (pc' := 82) (st' := [.int (((10 * ((S 289 a) - 48)) + (S 289 (a + 1))) - 48)]) rfl rfl rfl rfl ?_
        refine ax_s (pc' := 83) (st' := [.int p, .int (((10 * ((S 289 a) - 48)) + (S 289 (a + 1))) - 48)]) rfl rfl rfl rfl ?_
        refine ax_s (pc' := 84) (st' := [.int q, .int p, .int (((10 * ((S 289 a) - 48)) + (S 289 (a + 1))) - 48)]) rfl rfl rfl rfl ?_
        refine ax_call (vs := [.int (((10 * ((S 289 a) - 48)) + (S 289 (a + 1))) - 48), .int p, .int q]) (rr := []) rfl rfl rfl ?_
        refine mt_in ?_
        show am_ex (d + 3) 163 87 [some (.ref 285), some (.int p), some (.int q), some (.int (nI w)), some (.int (((10 * ((S 289 a) - 48)) + (S 289 (a + 1))) - 48))] [.int (bI (decide (¬ (((10 * ((S 289 a) - 48)) + (S 289 (a + 1))) - 48) < p ∧ ¬ q < (((10 * ((S 289 a) - 48)) + (S 289 (a + 1))) - 48))))] (am_hh X S L) _
        refine ax_pT rfl (fun c5 => ?_) (fun c5 => ?_)
        · refine ax_s (pc' := 98) (st' := [.ref 285]) rfl rfl rfl rfl ?_
          refine ax_s (pc' := 99) (st' := [.ref 285, .ref 285]) rfl rfl rfl rfl ?_
          refine ax_get rfl (hh_285 _ _ _) rfl rfl rfl ?_
          show am_ex (d + 3) 163 102 [some (.ref 285), some (.int p), some (.int q), some (.int (nI w)), some (.int (((10 * ((S 289 a) - 48)) + (S 289 (a + 1))) - 48))] [.int (S 285 21), .ref 285] (am_hh X S L) _
          refine ax_s (pc' := 103) (st' := [.int (nI w), .int (S 285 21), .ref 285]) rfl rfl rfl rfl ?_
          refine ax_s (pc' := 104) (st' := [.int ((S 285 21) + (nI w)), .ref 285]) rfl rfl rfl rfl ?_
          refine ax_put rfl (hh_285 _ _ _) rfl rfl (show 21 + 1 ≤ _ from Nat.le_of_ble_eq_true rfl) rfl (am_hh_set _ _ _ 285 21 _ rfl) ?_
          refine ax_s (pc' := 109) (st' := [.int (((10 * ((S 289 a) - 48)) + (S 289 (a + 1))) - 48)]) rfl rfl rfl rfl ?_
          refine ax_r rfl rfl rfl ?_
          exact k2 w w1 w2 w3 c1 c3 c4 c5
        · refine ax_s (pc' := 91) (st' := [.ref 285]) rfl rfl rfl rfl ?_
          refine ax_s (pc' := 92) (st' := [.int 2, .ref 285]) rfl rfl rfl rfl ?_
          refine ax_call (vs := [.ref 285, .int 2]) (rr := []) rfl rfl rfl ?_
          refine ax_in (ls := [some (.ref 285), some (.int 2)]) rfl ?_
          refine ax_s (pc' := 1) (st' := [.ref 285]) rfl rfl rfl rfl ?_
          refine ax_get rfl (hh_285 _ _ _) rfl rfl rfl ?_
          show am_ex (d + 2) 162 4 [some (.ref 285), some (.int 2)] [.int (S 285 23)] (am_hh X S L) _
          refine ax_if_ne rfl (fun c6 => False.elim (by first | exact c6 c1 | exact c1 c6)) (fun c6 => ?_)
          refine ax_s (pc' := 8) (st' := [.ref 285]) rfl rfl rfl rfl ?_
          refine ax_s (pc' := 9) (st' := [.int 2, .ref 285]) rfl rfl rfl rfl ?_
          refine ax_put rfl (hh_285 _ _ _) rfl rfl (show 23 + 1 ≤ _ from Nat.le_of_ble_eq_true rfl) rfl (am_hh_set _ _ _ 285 23 _ rfl) ?_
          refine ax_s (pc' := 13) (st' := [.ref 285]) rfl rfl rfl rfl ?_
          refine ax_s (pc' := 14) (st' := [.ref 285, .ref 285]) rfl rfl rfl rfl ?_
          refine ax_get rfl (hh_285 _ _ _) rfl rfl rfl ?_
          show am_ex (d + 2) 162 17 [some (.ref 285), some (.int 2)] [.int (S 285 21), .ref 285] (am_hh X (am_u S 285 23 2) L) _
          refine ax_put rfl (hh_285 _ _ _) rfl rfl (show 22 + 1 ≤ _ from Nat.le_of_ble_eq_true rfl) rfl (am_hh_set _ _ _ 285 22 _ rfl) ?_
          refine ax_r rfl rfl rfl ?_
          show am_ex (d + 3) 163 95 [some (.ref 285), some (.int p), some (.int q), some (.int (nI w)), some (.int (((10 * ((S 289 a) - 48)) + (S 289 (a + 1))) - 48))] [] (am_hh X (am_u (am_u S 285 23 2) 285 22 (S 285 21)) L) _
          refine ax_s (pc' := 96) (st' := [.int 0]) rfl rfl rfl rfl ?_
          refine ax_r rfl rfl rfl ?_
          exact k3 w w1 w2 w3 c1 c3 c4 c5
      · refine ax_s (pc' := 34) (st' := [.ref 285]) rfl rfl rfl rfl ?_
        refine ax_get rfl (hh_285 _ _ _) rfl rfl rfl ?_
        show am_ex (d + 3) 163 37 [some (.ref 285), some (.int p), some (.int q), some (.int (nI w)), none] [.ref 289] (am_hh X S L) _
        refine ax_s (pc' := 38) (st' := [.ref 285, .ref 289]) rfl rfl rfl rfl ?_
        refine ax_get rfl (hh_285 _ _ _) rfl rfl rfl ?_
        show am_ex (d + 3) 163 41 [some (.ref 285), some (.int p), some (.int q), some (.int (nI w)), none] [.int (S 285 21), .ref 289] (am_hh X S L) _
        refine ax_ald (j := a) (v := (S 289 a)) rfl (hh_289 _ _ _) rfl ha (x3 w w1 w2 w3 c1 c3 c4) (by decide) rfl ?_
        refine ax_s (pc' := 44) (st' := [.int 48, .int (S 289 a)]) rfl rfl rfl rfl ?_
        refine ax_s (pc' := 45) (st' := [.int ((S 289 a) - 48)]) rfl rfl rfl rfl ?_
        refine ax_s (pc' := 78) (st' := [.int ((S 289 a) - 48)]) rfl rfl rfl rfl ?_
        refine ax_s (pc' := 80) (ls' := [some (.ref 285), some (.int p), some (.int q), some (.int (nI w)), some (.int ((S 289 a) - 48))]) (st' := []) rfl rfl rfl rfl ?_
        refine ax_s (pc' := 82) (st' := [.int ((S 289 a) - 48)]) rfl rfl rfl rfl ?_
        refine ax_s (pc' := 83) (st' := [.int p, .int ((S 289 a) - 48)]) rfl rfl rfl rfl ?_
        refine ax_s (pc' := 84) (st' := [.int q, .int p, .int ((S 289 a) - 48)]) rfl rfl rfl rfl ?_
        refine ax_call (vs := [.int ((S 289 a) - 48), .int p, .int q]) (rr := []) rfl rfl rfl ?_
        refine mt_in ?_
        show am_ex (d + 3) 163 87 [some (.ref 285), some (.int p), some (.int q), some (.int (nI w)), some (.int ((S 289 a) - 48))] [.int (bI (decide (¬ ((S 289 a) - 48) < p ∧ ¬ q < ((S 289 a) - 48))))] (am_hh X S L) _
        refine ax_pT rfl (fun c7 => ?_) (fun c7 => ?_)
        · refine ax_s (pc' := 98) (st' := [.ref 285]) rfl rfl rfl rfl ?_
          refine ax_s (pc' := 99) (st' := [.ref 285, .ref 285]) rfl rfl rfl rfl ?_
          refine ax_get rfl (hh_285 _ _ _) rfl rfl rfl ?_
          show am_ex (d + 3) 163 102 [some (.ref 285), some (.int p), some (.int q), some (.int (nI w)), some (.int ((S 289 a) - 48))] [.int (S 285 21), .ref 285] (am_hh X S L) _
          refine ax_s (pc' := 103) (st' := [.int (nI w), .int (S 285 21), .ref 285]) rfl rfl rfl rfl ?_
          refine ax_s (pc' := 104) (st' := [.int ((S 285 21) + (nI w)), .ref 285]) rfl rfl rfl rfl ?_
          refine ax_put rfl (hh_285 _ _ _) rfl rfl (show 21 + 1 ≤ _ from Nat.le_of_ble_eq_true rfl) rfl (am_hh_set _ _ _ 285 21 _ rfl) ?_
          refine ax_s (pc' := 109) (st' := [.int ((S 289 a) - 48)]) rfl rfl rfl rfl ?_
          refine ax_r rfl rfl rfl ?_
          exact k4 w w1 w2 w3 c1 c3 c4 c7
        · refine ax_s (pc' := 91) (st' := [.ref 285]) rfl rfl rfl rfl ?_
          refine ax_s (pc' := 92) (st' := [.int 2, .ref 285]) rfl rfl rfl rfl ?_
          refine ax_call (vs := [.ref 285, .int 2]) (rr := []) rfl rfl rfl ?_
          refine ax_in (ls := [some (.ref 285), some (.int 2)]) rfl ?_
          refine ax_s (pc' := 1) (st' := [.ref 285]) rfl rfl rfl rfl ?_
          refine ax_get rfl (hh_285 _ _ _) rfl rfl rfl ?_
          show am_ex (d + 2) 162 4 [some (.ref 285), some (.int 2)] [.int (S 285 23)] (am_hh X S L) _
          refine ax_if_ne rfl (fun c8 => False.elim (by first | exact c8 c1 | exact c1 c8)) (fun c8 => ?_)
          refine ax_s (pc' := 8) (st' := [.ref 285]) rfl rfl rfl rfl ?_
          refine ax_s (pc' := 9) (st' := [.int 2, .ref 285]) rfl rfl rfl rfl ?_
          refine ax_put rfl (hh_285 _ _ _) rfl rfl (show 23 + 1 ≤ _ from Nat.le_of_ble_eq_true rfl) rfl (am_hh_set _ _ _ 285 23 _ rfl) ?_
          refine ax_s (pc' := 13) (st' := [.ref 285]) rfl rfl rfl rfl ?_
          refine ax_s (pc' := 14) (st' := [.ref 285, .ref 285]) rfl rfl rfl rfl ?_
          refine ax_get rfl (hh_285 _ _ _) rfl rfl rfl ?_
          show am_ex (d + 2) 162 17 [some (.ref 285), some (.int 2)] [.int (S 285 21), .ref 285] (am_hh X (am_u S 285 23 2) L) _
          refine ax_put rfl (hh_285 _ _ _) rfl rfl (show 22 + 1 ≤ _ from Nat.le_of_ble_eq_true rfl) rfl (am_hh_set _ _ _ 285 22 _ rfl) ?_
          refine ax_r rfl rfl rfl ?_
          show am_ex (d + 3) 163 95 [some (.ref 285), some (.int p), some (.int q), some (.int (nI w)), some (.int ((S 289 a) - 48))] [] (am_hh X (am_u (am_u S 285 23 2) 285 22 (S 285 21)) L) _
          refine ax_s (pc' := 96) (st' := [.int 0]) rfl rfl rfl rfl ?_
          refine ax_r rfl rfl rfl ?_
          exact k5 w w1 w2 w3 c1 c3 c4 c7
    · refine ax_s (pc' := 22) (st' := [.ref 285]) rfl rfl rfl rfl ?_
      refine ax_s (pc' := 23) (st' := [.int 1, .ref 285]) rfl rfl rfl rfl ?_
      refine ax_call (vs := [.ref 285, .int 1]) (rr := []) rfl rfl rfl ?_
      refine ax_in (ls := [some (.ref 285), some (.int 1)]) rfl ?_
      refine ax_s (pc' := 1) (st' := [.ref 285]) rfl rfl rfl rfl ?_
      refine ax_get rfl (hh_285 _ _ _) rfl rfl rfl ?_
      show am_ex (d + 2) 162 4 [some (.ref 285), some (.int 1)] [.int (S 285 23)] (am_hh X S L) _
      refine ax_if_ne rfl (fun c9 => False.elim (by first | exact c9 c1 | exact c1 c9)) (fun c9 => ?_)
      refine ax_s (pc' := 8) (st' := [.ref 285]) rfl rfl rfl rfl ?_
      refine ax_s (pc' := 9) (st' := [.int 1, .ref 285]) rfl rfl rfl rfl ?_
      refine ax_put rfl (hh_285 _ _ _) rfl rfl (show 23 + 1 ≤ _ from Nat.le_of_ble_eq_true rfl) rfl (am_hh_set _ _ _ 285 23 _ rfl) ?_
      refine ax_s (pc' := 13) (st' := [.ref 285]) rfl rfl rfl rfl ?_
      refine ax_s (pc' := 14) (st' := [.ref 285, .ref 285]) rfl rfl rfl rfl ?_
      refine ax_get rfl (hh_285 _ _ _) rfl rfl rfl ?_
      show am_ex (d + 2) 162 17 [some (.ref 285), some (.int 1)] [.int (S 285 21), .ref 285] (am_hh X (am_u S 285 23 1) L) _
      refine ax_put rfl (hh_285 _ _ _) rfl rfl (show 22 + 1 ≤ _ from Nat.le_of_ble_eq_true rfl) rfl (am_hh_set _ _ _ 285 22 _ rfl) ?_
      refine ax_r rfl rfl rfl ?_
      show am_ex (d + 3) 163 26 [some (.ref 285), some (.int p), some (.int q), some (.int (nI w)), none] [] (am_hh X (am_u (am_u S 285 23 1) 285 22 (S 285 21)) L) _
      refine ax_s (pc' := 27) (st' := [.int 0]) rfl rfl rfl rfl ?_
      refine ax_r rfl rfl rfl ?_
      exact k6 w w1 w2 w3 c1 c3
