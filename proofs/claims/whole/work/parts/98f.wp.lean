theorem wp_takeSign {d : Nat} {X : Nat × (Nat → Int32)} {S : Nat → Nat → Int32} {L : Nat → Int64} {b : Nat → Int32} {len a : Nat} {p : Int32} {Q : Option Value → am_H → Prop} (hl : S 18 2 = nI len) (ha : S 18 3 = nI a) (hal : a ≤ len) (hl1 : len ≤ 100) (hb : ∀ i, i < 100 → S 19 i = b i)  (k1 : (S 18 1) = 0 → ¬ (pz_by b len a) = p → Q none (am_hh X (am_u S 18 1 1) L)) (k2 : (S 18 1) = 0 → (pz_by b len a) = p → Q none (am_hh X (am_u S 18 3 ((S 18 3) + 1)) L)) (k3 : ¬ (S 18 1) = 0 → Q none (am_hh X S L)) : am_mt (d + 2) 31 [.ref 18, .int p] (am_hh X S L) Q := by
  refine ax_in (ls := [some (.ref 18), some (.int p)]) rfl ?_
  refine ax_s (pc' := 1) (st' := [.ref 18]) rfl rfl rfl rfl ?_
  refine ax_get rfl (hh_18 _ _ _) rfl rfl rfl ?_
  show am_ex (d + 2) 31 4 [some (.ref 18), some (.int p)] [.int (S 18 1)] (am_hh X S L) _
  refine ax_if_eq rfl (fun c1 => ?_) (fun c1 => ?_)
  · refine ax_s (pc' := 9) (st' := [.ref 18]) rfl rfl rfl rfl ?_
    refine ax_s (pc' := 10) (st' := [.ref 18, .ref 18]) rfl rfl rfl rfl ?_
    refine ax_get rfl (hh_18 _ _ _) rfl rfl rfl ?_
    show am_ex (d + 2) 31 13 [some (.ref 18), some (.int p)] [.int (S 18 3), .ref 18] (am_hh X S L) _
    refine ax_call (vs := [.ref 18, .int (S 18 3)]) (rr := []) rfl rfl rfl ?_
    refine kt_byteAt (b := b) (j := a) hl hl1 hb ha (by omega) ?_
    show am_ex (d + 2) 31 16 [some (.ref 18), some (.int p)] [.int (pz_by b len a)] (am_hh X S L) _
    refine ax_s (pc' := 17) (st' := [.int p, .int (pz_by b len a)]) rfl rfl rfl rfl ?_
    refine ax_cmp_ne rfl (fun c2 => ?_) (fun c2 => ?_)
    · refine ax_s (pc' := 34) (st' := [.ref 18]) rfl rfl rfl rfl ?_
      refine ax_s (pc' := 35) (st' := [.int 1, .ref 18]) rfl rfl rfl rfl ?_
      refine ax_put rfl (hh_18 _ _ _) rfl rfl (show 1 + 1 ≤ _ from Nat.le_of_ble_eq_true rfl) rfl (am_hh_set _ _ _ 18 1 _ rfl) ?_
      refine ax_r rfl rfl rfl ?_
      exact k1 c1 c2
    · refine ax_s (pc' := 21) (st' := [.ref 18]) rfl rfl rfl rfl ?_
      refine ax_s (pc' := 22) (st' := [.ref 18, .ref 18]) rfl rfl rfl rfl ?_
      refine ax_get rfl (hh_18 _ _ _) rfl rfl rfl ?_
      show am_ex (d + 2) 31 25 [some (.ref 18), some (.int p)] [.int (S 18 3), .ref 18] (am_hh X S L) _
      refine ax_s (pc' := 26) (st' := [.int 1, .int (S 18 3), .ref 18]) rfl rfl rfl rfl ?_
      refine ax_s (pc' := 27) (st' := [.int ((S 18 3) + 1), .ref 18]) rfl rfl rfl rfl ?_
      refine ax_put rfl (hh_18 _ _ _) rfl rfl (show 3 + 1 ≤ _ from Nat.le_of_ble_eq_true rfl) rfl (am_hh_set _ _ _ 18 3 _ rfl) ?_
      refine ax_s (pc' := 38) (st' := []) rfl rfl rfl rfl ?_
      refine ax_r rfl rfl rfl ?_
      exact k2 c1 c2
  · refine ax_r rfl rfl rfl ?_
    exact k3 c1
theorem wp_takeSort {d : Nat} {X : Nat × (Nat → Int32)} {S : Nat → Nat → Int32} {L : Nat → Int64} {b : Nat → Int32} {len a : Nat} {p : Int32} {Q : Option Value → am_H → Prop} (hl : S 18 2 = nI len) (ha : S 18 3 = nI a) (hal : a ≤ len) (hl1 : len ≤ 100) (hb : ∀ i, i < 100 → S 19 i = b i)  (k1 : (S 18 1) = 0 → ¬ (pz_kind (pz_by b len a)) = 0 → ¬ p = 0 → Q (some (.int (pz_kind (pz_by b len a)))) (am_hh X (am_u S 18 3 ((S 18 3) + 1)) L)) (k2 : (S 18 1) = 0 → ¬ (pz_kind (pz_by b len a)) = 0 → p = 0 → Q (some (.int (pz_kind (pz_by b len a)))) (am_hh X (am_u S 18 1 3) L)) (k3 : (S 18 1) = 0 → (pz_kind (pz_by b len a)) = 0 → Q (some (.int (pz_kind (pz_by b len a)))) (am_hh X (am_u S 18 1 1) L)) (k4 : ¬ (S 18 1) = 0 → Q (some (.int 0)) (am_hh X S L)) : am_mt (d + 2) 38 [.ref 18, .int p] (am_hh X S L) Q := by
  refine ax_in (ls := [some (.ref 18), some (.int p), none]) rfl ?_
  refine ax_s (pc' := 1) (st' := [.ref 18]) rfl rfl rfl rfl ?_
  refine ax_get rfl (hh_18 _ _ _) rfl rfl rfl ?_
  show am_ex (d + 2) 38 4 [some (.ref 18), some (.int p), none] [.int (S 18 1)] (am_hh X S L) _
  refine ax_if_eq rfl (fun c1 => ?_) (fun c1 => ?_)
  · refine ax_s (pc' := 10) (st' := [.ref 18]) rfl rfl rfl rfl ?_
    refine ax_s (pc' := 11) (st' := [.ref 18, .ref 18]) rfl rfl rfl rfl ?_
    refine ax_get rfl (hh_18 _ _ _) rfl rfl rfl ?_
    show am_ex (d + 2) 38 14 [some (.ref 18), some (.int p), none] [.int (S 18 3), .ref 18] (am_hh X S L) _
    refine ax_call (vs := [.ref 18, .int (S 18 3)]) (rr := []) rfl rfl rfl ?_
    refine kt_byteAt (b := b) (j := a) hl hl1 hb ha (by omega) ?_
    show am_ex (d + 2) 38 17 [some (.ref 18), some (.int p), none] [.int (pz_by b len a)] (am_hh X S L) _
    refine ax_call (vs := [.int (pz_by b len a)]) (rr := []) rfl rfl rfl ?_
    refine kt_kindOf ?_
    show am_ex (d + 2) 38 20 [some (.ref 18), some (.int p), none] [.int (pz_kind (pz_by b len a))] (am_hh X S L) _
    refine ax_s (pc' := 21) (ls' := [some (.ref 18), some (.int p), some (.int (pz_kind (pz_by b len a)))]) (st' := []) rfl rfl rfl rfl ?_
    refine ax_s (pc' := 22) (st' := [.int (pz_kind (pz_by b len a))]) rfl rfl rfl rfl ?_
    refine ax_if_ne rfl (fun c2 => ?_) (fun c2 => ?_)
    · refine ax_s (pc' := 34) (st' := [.int p]) rfl rfl rfl rfl ?_
      refine ax_if_ne rfl (fun c3 => ?_) (fun c3 => ?_)
      · refine ax_s (pc' := 46) (st' := [.ref 18]) rfl rfl rfl rfl ?_
        refine ax_s (pc' := 47) (st' := [.ref 18, .ref 18]) rfl rfl rfl rfl ?_
        refine ax_get rfl (hh_18 _ _ _) rfl rfl rfl ?_
        show am_ex (d + 2) 38 50 [some (.ref 18), some (.int p), some (.int (pz_kind (pz_by b len a)))] [.int (S 18 3), .ref 18] (am_hh X S L) _
        refine ax_s (pc' := 51) (st' := [.int 1, .int (S 18 3), .ref 18]) rfl rfl rfl rfl ?_
        refine ax_s (pc' := 52) (st' := [.int ((S 18 3) + 1), .ref 18]) rfl rfl rfl rfl ?_
        refine ax_put rfl (hh_18 _ _ _) rfl rfl (show 3 + 1 ≤ _ from Nat.le_of_ble_eq_true rfl) rfl (am_hh_set _ _ _ 18 3 _ rfl) ?_
        refine ax_s (pc' := 56) (st' := [.int (pz_kind (pz_by b len a))]) rfl rfl rfl rfl ?_
        refine ax_r rfl rfl rfl ?_
        exact k1 c1 c2 c3
      · refine ax_s (pc' := 38) (st' := [.ref 18]) rfl rfl rfl rfl ?_
        refine ax_s (pc' := 39) (st' := [.int 3, .ref 18]) rfl rfl rfl rfl ?_
        refine ax_put rfl (hh_18 _ _ _) rfl rfl (show 1 + 1 ≤ _ from Nat.le_of_ble_eq_true rfl) rfl (am_hh_set _ _ _ 18 1 _ rfl) ?_
        refine ax_s (pc' := 55) (st' := []) rfl rfl rfl rfl ?_
        refine ax_s (pc' := 56) (st' := [.int (pz_kind (pz_by b len a))]) rfl rfl rfl rfl ?_
        refine ax_r rfl rfl rfl ?_
        exact k2 c1 c2 c3
    · refine ax_s (pc' := 26) (st' := [.ref 18]) rfl rfl rfl rfl ?_
      refine ax_s (pc' := 27) (st' := [.int 1, .ref 18]) rfl rfl rfl rfl ?_
      refine ax_put rfl (hh_18 _ _ _) rfl rfl (show 1 + 1 ≤ _ from Nat.le_of_ble_eq_true rfl) rfl (am_hh_set _ _ _ 18 1 _ rfl) ?_
      refine ax_s (pc' := 55) (st' := []) rfl rfl rfl rfl ?_
      refine ax_s (pc' := 56) (st' := [.int (pz_kind (pz_by b len a))]) rfl rfl rfl rfl ?_
      refine ax_r rfl rfl rfl ?_
      exact k3 c1 c2
  · refine ax_s (pc' := 8) (st' := [.int 0]) rfl rfl rfl rfl ?_
    refine ax_r rfl rfl rfl ?_
    exact k4 c1
theorem wp_takeNumber {d : Nat} {X : Nat × (Nat → Int32)} {S : Nat → Nat → Int32} {L : Nat → Int64} {b : Nat → Int32} {len a : Nat} {p q : Int32} {Q : Option Value → am_H → Prop} (hl : S 18 2 = nI len) (ha : S 18 3 = nI a) (hal : a ≤ len) (hl1 : len ≤ 100) (hb : ∀ i, i < 100 → S 19 i = b i)  (k1 : (S 18 1) = 0 → ¬ (¬ (pz_by b len (a + 0)) < 48 ∧ ¬ 57 < (pz_by b len (a + 0))) → Q (some (.int 0)) (am_hh X (am_u S 18 1 1) L)) (k2 : (S 18 1) = 0 → ¬ (pz_by b len (a + 0)) < 48 ∧ ¬ 57 < (pz_by b len (a + 0)) → ¬ (¬ (pz_by b len (a + 1)) < 48 ∧ ¬ 57 < (pz_by b len (a + 1))) → ¬ (((0 + (pz_by b len (a + 0))) - 48) < p ∨ q < ((0 + (pz_by b len (a + 0))) - 48)) → Q (some (.int ((0 + (pz_by b len (a + 0))) - 48))) (am_hh X (am_u S 18 3 ((S 18 3) + 1)) L)) (k3 : (S 18 1) = 0 → ¬ (pz_by b len (a + 0)) < 48 ∧ ¬ 57 < (pz_by b len (a + 0)) → ¬ (¬ (pz_by b len (a + 1)) < 48 ∧ ¬ 57 < (pz_by b len (a + 1))) → ((0 + (pz_by b len (a + 0))) - 48) < p ∨ q < ((0 + (pz_by b len (a + 0))) - 48) → Q (some (.int ((0 + (pz_by b len (a + 0))) - 48))) (am_hh X (am_u S 18 1 2) L)) (k4 : (S 18 1) = 0 → ¬ (pz_by b len (a + 0)) < 48 ∧ ¬ 57 < (pz_by b len (a + 0)) → ¬ (pz_by b len (a + 1)) < 48 ∧ ¬ 57 < (pz_by b len (a + 1)) → ¬ (¬ (pz_by b len (a + 2)) < 48 ∧ ¬ 57 < (pz_by b len (a + 2))) → ¬ ((((((0 + (pz_by b len (a + 0))) - 48) * 10) + (pz_by b len (a + 1))) - 48) < p ∨ q < (((((0 + (pz_by b len (a + 0))) - 48) * 10) + (pz_by b len (a + 1))) - 48)) → Q (some (.int (((((0 + (pz_by b len (a + 0))) - 48) * 10) + (pz_by b len (a + 1))) - 48))) (am_hh X (am_u S 18 3 ((S 18 3) + 2)) L)) (k5 : (S 18 1) = 0 → ¬ (pz_by b len (a + 0)) < 48 ∧ ¬ 57 < (pz_by b len (a + 0)) → ¬ (pz_by b len (a + 1)) < 48 ∧ ¬ 57 < (pz_by b len (a + 1)) → ¬ (¬ (pz_by b len (a + 2)) < 48 ∧ ¬ 57 < (pz_by b len (a + 2))) → (((((0 + (pz_by b len (a + 0))) - 48) * 10) + (pz_by b len (a + 1))) - 48) < p ∨ q < (((((0 + (pz_by b len (a + 0))) - 48) * 10) + (pz_by b len (a + 1))) - 48) → Q (some (.int (((((0 + (pz_by b len (a + 0))) - 48) * 10) + (pz_by b len (a + 1))) - 48))) (am_hh X (am_u S 18 1 2) L)) (k6 : (S 18 1) = 0 → ¬ (pz_by b len (a + 0)) < 48 ∧ ¬ 57 < (pz_by b len (a + 0)) → ¬ (pz_by b len (a + 1)) < 48 ∧ ¬ 57 < (pz_by b len (a + 1)) → ¬ (pz_by b len (a + 2)) < 48 ∧ ¬ 57 < (pz_by b len (a + 2)) → Q (some (.int ((((((((0 + (pz_by b len (a + 0))) - 48) * 10) + (pz_by b len (a + 1))) - 48) * 10) + (pz_by b len (a + 2))) - 48))) (am_hh X (am_u S 18 1 1) L)) (k7 : ¬ (S 18 1) = 0 → Q (some (.int 0)) (am_hh X S L)) : am_mt (d + 2) 33 [.ref 18, .int p, .int q] (am_hh X S L) Q := by
  refine ax_in (ls := [some (.ref 18), some (.int p), some (.int q), none, none]) rfl ?_
  refine ax_s (pc' := 1) (st' := [.ref 18]) rfl rfl rfl rfl ?_
  refine ax_get rfl (hh_18 _ _ _) rfl rfl rfl ?_
  show am_ex (d + 2) 33 4 [some (.ref 18), some (.int p), some (.int q), none, none] [.int (S 18 1)] (am_hh X S L) _
  refine ax_if_eq rfl (fun c1 => ?_) (fun c1 => ?_)
  · refine ax_s (pc' := 10) (st' := [.int 0]) rfl rfl rfl rfl ?_
    refine ax_s (pc' := 11) (ls' := [some (.ref 18), some (.int p), some (.int q), some (.int 0), none]) (st' := []) rfl rfl rfl rfl ?_
    refine ax_s (pc' := 12) (st' := [.int 0]) rfl rfl rfl rfl ?_
    refine ax_s (pc' := 14) (ls' := [some (.ref 18), some (.int p), some (.int q), some (.int 0), some (.int 0)]) (st' := []) rfl rfl rfl rfl ?_
    refine ax_s (pc' := 15) (st' := [.int 0]) rfl rfl rfl rfl ?_
    refine ax_s (pc' := 16) (st' := [.int 3, .int 0]) rfl rfl rfl rfl ?_
    refine ax_cmp_ge rfl (fun c2 => False.elim (by revert c2; decide)) (fun c2 => ?_)
    refine ax_s (pc' := 20) (st' := [.ref 18]) rfl rfl rfl rfl ?_
    refine ax_s (pc' := 21) (st' := [.ref 18, .ref 18]) rfl rfl rfl rfl ?_
    refine ax_get rfl (hh_18 _ _ _) rfl rfl rfl ?_
    show am_ex (d + 2) 33 24 [some (.ref 18), some (.int p), some (.int q), some (.int 0), some (.int 0)] [.int (S 18 3), .ref 18] (am_hh X S L) _
    refine ax_s (pc' := 25) (st' := [.int 0, .int (S 18 3), .ref 18]) rfl rfl rfl rfl ?_
    refine ax_s (pc' := 26) (st' := [.int ((S 18 3) + 0), .ref 18]) rfl rfl rfl rfl ?_
    refine ax_call (vs := [.ref 18, .int ((S 18 3) + 0)]) (rr := []) rfl rfl rfl ?_
    refine kt_byteAt (b := b) (j := (a + 0)) hl hl1 hb (am_na (x := a) (y := 0) ha rfl) (by omega) ?_
    show am_ex (d + 2) 33 29 [some (.ref 18), some (.int p), some (.int q), some (.int 0), some (.int 0)] [.int (pz_by b len (a + 0))] (am_hh X S L) _
    refine ax_call (vs := [.int (pz_by b len (a + 0))]) (rr := []) rfl rfl rfl ?_
    refine kt_isFigure ?_
    show am_ex (d + 2) 33 32 [some (.ref 18), some (.int p), some (.int q), some (.int 0), some (.int 0)] [.int (bI (decide (¬ (pz_by b len (a + 0)) < 48 ∧ ¬ 57 < (pz_by b len (a + 0)))))] (am_hh X S L) _
    refine ax_pF rfl (fun c3 => ?_) (fun c3 => ?_)
    · refine ax_s (pc' := 63) (st' := [.int 0]) rfl rfl rfl rfl ?_
      refine ax_if_eq rfl (fun c4 => ?_) (fun c4 => False.elim (by revert c4; decide))
      refine ax_s (pc' := 72) (st' := [.ref 18]) rfl rfl rfl rfl ?_
      refine ax_s (pc' := 73) (st' := [.int 1, .ref 18]) rfl rfl rfl rfl ?_
      refine ax_put rfl (hh_18 _ _ _) rfl rfl (show 1 + 1 ≤ _ from Nat.le_of_ble_eq_true rfl) rfl (am_hh_set _ _ _ 18 1 _ rfl) ?_
      refine ax_s (pc' := 107) (st' := []) rfl rfl rfl rfl ?_
      refine ax_s (pc' := 109) (st' := [.int 0]) rfl rfl rfl rfl ?_
      refine ax_r rfl rfl rfl ?_
      exact k1 c1 c3
    · refine ax_s (pc' := 37) (st' := [.int 0]) rfl rfl rfl rfl ?_
      refine ax_s (pc' := 39) (st' := [.int 10, .int 0]) rfl rfl rfl rfl ?_
      refine ax_s (pc' := 40) (st' := [.int 0]) rfl rfl rfl rfl ?_
      refine ax_s (pc' := 41) (st' := [.ref 18, .int 0]) rfl rfl rfl rfl ?_
      refine ax_s (pc' := 42) (st' := [.ref 18, .ref 18, .int 0]) rfl rfl rfl rfl ?_
      refine ax_get rfl (hh_18 _ _ _) rfl rfl rfl ?_
      show am_ex (d + 2) 33 45 [some (.ref 18), some (.int p), some (.int q), some (.int 0), some (.int 0)] [.int (S 18 3), .ref 18, .int 0] (am_hh X S L) _
      refine ax_s (pc' := 46) (st' := [.int 0, .int (S 18 3), .ref 18, .int 0]) rfl rfl rfl rfl ?_
      refine ax_s (pc' := 47) (st' := [.int ((S 18 3) + 0), .ref 18, .int 0]) rfl rfl rfl rfl ?_
      refine ax_call (vs := [.ref 18, .int ((S 18 3) + 0)]) (rr := [.int 0]) rfl rfl rfl ?_
      refine kt_byteAt (b := b) (j := (a + 0)) hl hl1 hb (am_na (x := a) (y := 0) ha rfl) (by omega) ?_
      show am_ex (d + 2) 33 50 [some (.ref 18), some (.int p), some (.int q), some (.int 0), some (.int 0)] [.int (pz_by b len (a + 0)), .int 0] (am_hh X S L) _
      refine ax_s (pc' := 51) (st' := [.int (0 + (pz_by b len (a + 0)))]) rfl rfl rfl rfl ?_
      refine ax_s (pc' := 53) (st' := [.int 48, .int (0 + (pz_by b len (a + 0)))]) rfl rfl rfl rfl ?_
      refine ax_s (pc' := 54) (st' := [.int ((0 + (pz_by b len (a + 0))) - 48)]) rfl rfl rfl rfl ?_
      refine ax_s (pc' := 56) (ls' := [some (.ref 18), some (.int p), some (.int q), some (.int 0), some (.int ((0 + (pz_by b len (a + 0))) - 48))]) (st' := []) rfl rfl rfl rfl ?_
      refine ax_s (pc' := 59) (ls' := [some (.ref 18), some (.int p), some (.int q), some (.int 1), some (.int ((0 + (pz_by b len (a + 0))) - 48))]) (st' := []) rfl rfl rfl rfl ?_
      refine ax_s (pc' := 14) (st' := []) rfl rfl rfl rfl ?_
      refine ax_s (pc' := 15) (st' := [.int 1]) rfl rfl rfl rfl ?_
      refine ax_s (pc' := 16) (st' := [.int 3, .int 1]) rfl rfl rfl rfl ?_
      refine ax_cmp_ge rfl (fun c5 => False.elim (by revert c5; decide)) (fun c5 => ?_)
      refine ax_s (pc' := 20) (st' := [.ref 18]) rfl rfl rfl rfl ?_
      refine ax_s (pc' := 21) (st' := [.ref 18, .ref 18]) rfl rfl rfl rfl ?_
      refine ax_get rfl (hh_18 _ _ _) rfl rfl rfl ?_
      show am_ex (d + 2) 33 24 [some (.ref 18), some (.int p), some (.int q), some (.int 1), some (.int ((0 + (pz_by b len (a + 0))) - 48))] [.int (S 18 3), .ref 18] (am_hh X S L) _
      refine ax_s (pc' := 25) (st' := [.int 1, .int (S 18 3), .ref 18]) rfl rfl rfl rfl ?_
      refine ax_s (pc' := 26) (st' := [.int ((S 18 3) + 1), .ref 18]) rfl rfl rfl rfl ?_
      refine ax_call (vs := [.ref 18, .int ((S 18 3) + 1)]) (rr := []) rfl rfl rfl ?_
      refine kt_byteAt (b := b) (j := (a + 1)) hl hl1 hb (am_na (x := a) (y := 1) ha rfl) (by omega) ?_
      show am_ex (d + 2) 33 29 [some (.ref 18), some (.int p), some (.int q), some (.int 1), some (.int ((0 + (pz_by b len (a + 0))) - 48))] [.int (pz_by b len (a + 1))] (am_hh X S L) _
      refine ax_call (vs := [.int (pz_by b len (a + 1))]) (rr := []) rfl rfl rfl ?_
      refine kt_isFigure ?_
      show am_ex (d + 2) 33 32 [some (.ref 18), some (.int p), some (.int q), some (.int 1), some (.int ((0 + (pz_by b len (a + 0))) - 48))] [.int (bI (decide (¬ (pz_by b len (a + 1)) < 48 ∧ ¬ 57 < (pz_by b len (a + 1)))))] (am_hh X S L) _
      refine ax_pF rfl (fun c6 => ?_) (fun c6 => ?_)
      · refine ax_s (pc' := 63) (st' := [.int 1]) rfl rfl rfl rfl ?_
        refine ax_if_eq rfl (fun c7 => False.elim (by revert c7; decide)) (fun c7 => ?_)
        refine ax_s (pc' := 67) (st' := [.int 1]) rfl rfl rfl rfl ?_
        refine ax_s (pc' := 68) (st' := [.int 3, .int 1]) rfl rfl rfl rfl ?_
        refine ax_cmp_ne rfl (fun c8 => ?_) (fun c8 => False.elim (by revert c8; decide))
        refine ax_s (pc' := 81) (st' := [.int ((0 + (pz_by b len (a + 0))) - 48)]) rfl rfl rfl rfl ?_
        refine ax_s (pc' := 82) (st' := [.int p, .int ((0 + (pz_by b len (a + 0))) - 48)]) rfl rfl rfl rfl ?_
        refine ax_s (pc' := 83) (st' := [.int q, .int p, .int ((0 + (pz_by b len (a + 0))) - 48)]) rfl rfl rfl rfl ?_
        refine ax_call (vs := [.int ((0 + (pz_by b len (a + 0))) - 48), .int p, .int q]) (rr := []) rfl rfl rfl ?_
        refine ct_isOutside ?_
        show am_ex (d + 2) 33 86 [some (.ref 18), some (.int p), some (.int q), some (.int 1), some (.int ((0 + (pz_by b len (a + 0))) - 48))] [.int (bI (decide (((0 + (pz_by b len (a + 0))) - 48) < p ∨ q < ((0 + (pz_by b len (a + 0))) - 48))))] (am_hh X S L) _
        refine ax_pF rfl (fun c9 => ?_) (fun c9 => ?_)
        · refine ax_s (pc' := 98) (st' := [.ref 18]) rfl rfl rfl rfl ?_
          refine ax_s (pc' := 99) (st' := [.ref 18, .ref 18]) rfl rfl rfl rfl ?_
          refine ax_get rfl (hh_18 _ _ _) rfl rfl rfl ?_
          show am_ex (d + 2) 33 102 [some (.ref 18), some (.int p), some (.int q), some (.int 1), some (.int ((0 + (pz_by b len (a + 0))) - 48))] [.int (S 18 3), .ref 18] (am_hh X S L) _
          refine ax_s (pc' := 103) (st' := [.int 1, .int (S 18 3), .ref 18]) rfl rfl rfl rfl ?_
          refine ax_s (pc' := 104) (st' := [.int ((S 18 3) + 1), .ref 18]) rfl rfl rfl rfl ?_
          refine ax_put rfl (hh_18 _ _ _) rfl rfl (show 3 + 1 ≤ _ from Nat.le_of_ble_eq_true rfl) rfl (am_hh_set _ _ _ 18 3 _ rfl) ?_
          refine ax_s (pc' := 109) (st' := [.int ((0 + (pz_by b len (a + 0))) - 48)]) rfl rfl rfl rfl ?_
          refine ax_r rfl rfl rfl ?_
          exact k2 c1 c3 c6 c9
        · refine ax_s (pc' := 90) (st' := [.ref 18]) rfl rfl rfl rfl ?_
          refine ax_s (pc' := 91) (st' := [.int 2, .ref 18]) rfl rfl rfl rfl ?_
          refine ax_put rfl (hh_18 _ _ _) rfl rfl (show 1 + 1 ≤ _ from Nat.le_of_ble_eq_true rfl) rfl (am_hh_set _ _ _ 18 1 _ rfl) ?_
          refine ax_s (pc' := 107) (st' := []) rfl rfl rfl rfl ?_
          refine ax_s (pc' := 109) (st' := [.int ((0 + (pz_by b len (a + 0))) - 48)]) rfl rfl rfl rfl ?_
          refine ax_r rfl rfl rfl ?_
          exact k3 c1 c3 c6 c9
      · refine ax_s (pc' := 37) (st' := [.int ((0 + (pz_by b len (a + 0))) - 48)]) rfl rfl rfl rfl ?_
        refine ax_s (pc' := 39) (st' := [.int 10, .int ((0 + (pz_by b len (a + 0))) - 48)]) rfl rfl rfl rfl ?_
        refine ax_s (pc' := 40) (st' := [.int (((0 + (pz_by b len (a + 0))) - 48) * 10)]) rfl rfl rfl rfl ?_
        refine ax_s (pc' := 41) (st' := [.ref 18, .int (((0 + (pz_by b len (a + 0))) - 48) * 10)]) rfl rfl rfl rfl ?_
        refine ax_s (pc' := 42) (st' := [.ref 18, .ref 18, .int (((0 + (pz_by b len (a + 0))) - 48) * 10)]) rfl rfl rfl rfl ?_
        refine ax_get rfl (hh_18 _ _ _) rfl rfl rfl ?_
        show am_ex (d + 2) 33 45 [some (.ref 18), some (.int p), some (.int q), some (.int 1), some (.int ((0 + (pz_by b len (a + 0))) - 48))] [.int (S 18 3), .ref 18, .int (((0 + (pz_by b len (a + 0))) - 48) * 10)] (am_hh X S L) _
        refine ax_s (pc' := 46) (st' := [.int 1, .int (S 18 3), .ref 18, .int (((0 + (pz_by b len (a + 0))) - 48) * 10)]) rfl rfl rfl rfl ?_
        refine ax_s (pc' := 47) (st' := [.int ((S 18 3) + 1), .ref 18, .int (((0 + (pz_by b len (a + 0))) - 48) * 10)]) rfl rfl rfl rfl ?_
        refine ax_call (vs := [.ref 18, .int ((S 18 3) + 1)]) (rr := [.int (((0 + (pz_by b len (a + 0))) - 48) * 10)]) rfl rfl rfl ?_
        refine kt_byteAt (b := b) (j := (a + 1)) hl hl1 hb (am_na (x := a) (y := 1) ha rfl) (by omega) ?_
        show am_ex (d + 2) 33 50 [some (.ref 18), some (.int p), some (.int q), some (.int 1), some (.int ((0 + (pz_by b len (a + 0))) - 48))] [.int (pz_by b len (a + 1)), .int (((0 + (pz_by b len (a + 0))) - 48) * 10)] (am_hh X S L) _
        refine ax_s (pc' := 51) (st' := [.int ((((0 + (pz_by b len (a + 0))) - 48) * 10) + (pz_by b len (a + 1)))]) rfl rfl rfl rfl ?_
        refine ax_s (pc' := 53) (st' := [.int 48, .int ((((0 + (pz_by b len (a + 0))) - 48) * 10) + (pz_by b len (a + 1)))]) rfl rfl rfl rfl ?_
        refine ax_s (pc' := 54) (st' := [.int (((((0 + (pz_by b len (a + 0))) - 48) * 10) + (pz_by b len (a + 1))) - 48)]) rfl rfl rfl rfl ?_
        refine ax_s (pc' := 56) (ls' := [some (.ref 18), some (.int p), some (.int q), some (.int 1), some (.int (((((0 + (pz_by b len (a + 0))) - 48) * 10) + (pz_by b len (a + 1))) - 48))]) (st' := []) rfl rfl rfl rfl ?_
        refine ax_s (pc' := 59) (ls' := [some (.ref 18), some (.int p), some (.int q), some (.int 2), some (.int (((((0 + (pz_by b len (a + 0))) - 48) * 10) + (pz_by b len (a + 1))) - 48))]) (st' := []) rfl rfl rfl rfl ?_
        refine ax_s (pc' := 14) (st' := []) rfl rfl rfl rfl ?_
        refine ax_s (pc' := 15) (st' := [.int 2]) rfl rfl rfl rfl ?_
        refine ax_s (pc' := 16) (st' := [.int 3, .int 2]) rfl rfl rfl rfl ?_
        refine ax_cmp_ge rfl (fun c10 => False.elim (by revert c10; decide)) (fun c10 => ?_)
        refine ax_s (pc' := 20) (st' := [.ref 18]) rfl rfl rfl rfl ?_
        refine ax_s (pc' := 21) (st' := [.ref 18, .ref 18]) rfl rfl rfl rfl ?_
        refine ax_get rfl (hh_18 _ _ _) rfl rfl rfl ?_
        show am_ex (d + 2) 33 24 [some (.ref 18), some (.int p), some (.int q), some (.int 2), some (.int (((((0 + (pz_by b len (a + 0))) - 48) * 10) + (pz_by b len (a + 1))) - 48))] [.int (S 18 3), .ref 18] (am_hh X S L) _
        refine ax_s (pc' := 25) (st' := [.int 2, .int (S 18 3), .ref 18]) rfl rfl rfl rfl ?_
        refine ax_s (pc' := 26) (st' := [.int ((S 18 3) + 2), .ref 18]) rfl rfl rfl rfl ?_
        refine ax_call (vs := [.ref 18, .int ((S 18 3) + 2)]) (rr := []) rfl rfl rfl ?_
        refine kt_byteAt (b := b) (j := (a + 2)) hl hl1 hb (am_na (x := a) (y := 2) ha rfl) (by omega) ?_
        show am_ex (d + 2) 33 29 [some (.ref 18), some (.int p), some (.int q), some (.int 2), some (.int (((((0 + (pz_by b len (a + 0))) - 48) * 10) + (pz_by b len (a + 1))) - 48))] [.int (pz_by b len (a + 2))] (am_hh X S L) _
        refine ax_call (vs := [.int (pz_by b len (a + 2))]) (rr := []) rfl rfl rfl ?_
        refine kt_isFigure ?_
        show am_ex (d + 2) 33 32 [some (.ref 18), some (.int p), some (.int q), some (.int 2), some (.int (((((0 + (pz_by b len (a + 0))) - 48) * 10) + (pz_by b len (a + 1))) - 48))] [.int (bI (decide (¬ (pz_by b len (a + 2)) < 48 ∧ ¬ 57 < (pz_by b len (a + 2)))))] (am_hh X S L) _
        refine ax_pF rfl (fun c11 => ?_) (fun c11 => ?_)
        · refine ax_s (pc' := 63) (st' := [.int 2]) rfl rfl rfl rfl ?_
          refine ax_if_eq rfl (fun c12 => False.elim (by revert c12; decide)) (fun c12 => ?_)
          refine ax_s (pc' := 67) (st' := [.int 2]) rfl rfl rfl rfl ?_
          refine ax_s (pc' := 68) (st' := [.int 3, .int 2]) rfl rfl rfl rfl ?_
          refine ax_cmp_ne rfl (fun c13 => ?_) (fun c13 => False.elim (by revert c13; decide))
          refine ax_s (pc' := 81) (st' := [.int (((((0 + (pz_by b len (a + 0))) - 48) * 10) + (pz_by b len (a + 1))) - 48)]) rfl rfl rfl rfl ?_
          refine ax_s (pc' := 82) (st' := [.int p, .int (((((0 + (pz_by b len (a + 0))) - 48) * 10) + (pz_by b len (a + 1))) - 48)]) rfl rfl rfl rfl ?_
          refine ax_s (pc' := 83) (st' := [.int q, .int p, .int (((((0 + (pz_by b len (a + 0))) - 48) * 10) + (pz_by b len (a + 1))) - 48)]) rfl rfl rfl rfl ?_
          refine ax_call (vs := [.int (((((0 + (pz_by b len (a + 0))) - 48) * 10) + (pz_by b len (a + 1))) - 48), .int p, .int q]) (rr := []) rfl rfl rfl ?_
          refine ct_isOutside ?_
          show am_ex (d + 2) 33 86 [some (.ref 18), some (.int p), some (.int q), some (.int 2), some (.int (((((0 + (pz_by b len (a + 0))) - 48) * 10) + (pz_by b len (a + 1))) - 48))] [.int (bI (decide ((((((0 + (pz_by b len (a + 0))) - 48) * 10) + (pz_by b len (a + 1))) - 48) < p ∨ q < (((((0 + (pz_by b len (a + 0))) - 48) * 10) + (pz_by b len (a + 1))) - 48))))] (am_hh X S L) _
          refine ax_pF rfl (fun c14 => ?_) (fun c14 => ?_)
          · refine ax_s (pc' := 98) (st' := [.ref 18]) rfl rfl rfl rfl ?_
            refine ax_s (pc' := 99) (st' := [.ref 18, .ref 18]) rfl rfl rfl rfl ?_
            refine ax_get rfl (hh_18 _ _ _) rfl rfl rfl ?_
            show am_ex (d + 2) 33 102 [some (.ref 18), some (.int p), some (.int q), some (.int 2), some (.int (((((0 + (pz_by b len (a + 0))) - 48) * 10) + (pz_by b len (a + 1))) - 48))] [.int (S 18 3), .ref 18] (am_hh X S L) _
            refine ax_s (pc' := 103) (st' := [.int 2, .int (S 18 3), .ref 18]) rfl rfl rfl rfl ?_
            refine ax_s (pc' := 104) (st' := [.int ((S 18 3) + 2), .ref 18]) rfl rfl rfl rfl ?_
            refine ax_put rfl (hh_18 _ _ _) rfl rfl (show 3 + 1 ≤ _ from Nat.le_of_ble_eq_true rfl) rfl (am_hh_set _ _ _ 18 3 _ rfl) ?_
            refine ax_s (pc' := 109) (st' := [.int (((((0 + (pz_by b len (a + 0))) - 48) * 10) + (pz_by b len (a + 1))) - 48)]) rfl rfl rfl rfl ?_
            refine ax_r rfl rfl rfl ?_
            exact k4 c1 c3 c6 c11 c14
          · refine ax_s (pc' := 90) (st' := [.ref 18]) rfl rfl rfl rfl ?_
            refine ax_s (pc' := 91) (st' := [.int 2, .ref 18]) rfl rfl rfl rfl ?_
            refine ax_put rfl (hh_18 _ _ _) rfl rfl (show 1 + 1 ≤ _ from Nat.le_of_ble_eq_true rfl) rfl (am_hh_set _ _ _ 18 1 _ rfl) ?_
            refine ax_s (pc' := 107) (st' := []) rfl rfl rfl rfl ?_
            refine ax_s (pc' := 109) (st' := [.int (((((0 + (pz_by b len (a + 0))) - 48) * 10) + (pz_by b len (a + 1))) - 48)]) rfl rfl rfl rfl ?_
            refine ax_r rfl rfl rfl ?_
            exact k5 c1 c3 c6 c11 c14
        · refine ax_s (pc' := 37) (st' := [.int (((((0 + (pz_by b len (a + 0))) - 48) * 10) + (pz_by b len (a + 1))) - 48)]) rfl rfl rfl rfl ?_
          refine ax_s (pc' := 39) (st' := [.int 10, .int (((((0 + (pz_by b len (a + 0))) - 48) * 10) + (pz_by b len (a + 1))) - 48)]) rfl rfl rfl rfl ?_
          refine ax_s (pc' := 40) (st' := [.int ((((((0 + (pz_by b len (a + 0))) - 48) * 10) + (pz_by b len (a + 1))) - 48) * 10)]) rfl rfl rfl rfl ?_
          refine ax_s (pc' := 41) (st' := [.ref 18, .int ((((((0 + (pz_by b len (a + 0))) - 48) * 10) + (pz_by b len (a + 1))) - 48) * 10)]) rfl rfl rfl rfl ?_
          refine ax_s (pc' := 42) (st' := [.ref 18, .ref 18, .int ((((((0 + (pz_by b len (a + 0))) - 48) * 10) + (pz_by b len (a + 1))) - 48) * 10)]) rfl rfl rfl rfl ?_
          refine ax_get rfl (hh_18 _ _ _) rfl rfl rfl ?_
          show am_ex (d + 2) 33 45 [some (.ref 18), some (.int p), some (.int q), some (.int 2), some (.int (((((0 + (pz_by b len (a + 0))) - 48) * 10) + (pz_by b len (a + 1))) - 48))] [.int (S 18 3), .ref 18, .int ((((((0 + (pz_by b len (a + 0))) - 48) * 10) + (pz_by b len (a + 1))) - 48) * 10)] (am_hh X S L) _
          refine ax_s (pc' := 46) (st' := [.int 2, .int (S 18 3), .ref 18, .int ((((((0 + (pz_by b len (a + 0))) - 48) * 10) + (pz_by b len (a + 1))) - 48) * 10)]) rfl rfl rfl rfl ?_
          refine ax_s (pc' := 47) (st' := [.int ((S 18 3) + 2), .ref 18, .int ((((((0 + (pz_by b len (a + 0))) - 48) * 10) + (pz_by b len (a + 1))) - 48) * 10)]) rfl rfl rfl rfl ?_
          refine ax_call (vs := [.ref 18, .int ((S 18 3) + 2)]) (rr := [.int ((((((0 + (pz_by b len (a + 0))) - 48) * 10) + (pz_by b len (a + 1))) - 48) * 10)]) rfl rfl rfl ?_
          refine kt_byteAt (b := b) (j := (a + 2)) hl hl1 hb (am_na (x := a) (y := 2) ha rfl) (by omega) ?_
          show am_ex (d + 2) 33 50 [some (.ref 18), some (.int p), some (.int q), some (.int 2), some (.int (((((0 + (pz_by b len (a + 0))) - 48) * 10) + (pz_by b len (a + 1))) - 48))] [.int (pz_by b len (a + 2)), .int ((((((0 + (pz_by b len (a + 0))) - 48) * 10) + (pz_by b len (a + 1))) - 48) * 10)] (am_hh X S L) _
          refine ax_s (pc' := 51) (st' := [.int (((((((0 + (pz_by b len (a + 0))) - 48) * 10) + (pz_by b len (a + 1))) - 48) * 10) + (pz_by b len (a + 2)))]) rfl rfl rfl rfl ?_
          refine ax_s (pc' := 53) (st' := [.int 48, .int (((((((0 + (pz_by b len (a + 0))) - 48) * 10) + (pz_by b len (a + 1))) - 48) * 10) + (pz_by b len (a + 2)))]) rfl rfl rfl rfl ?_
          refine ax_s (pc' := 54) (st' := [.int ((((((((0 + (pz_by b len (a + 0))) - 48) * 10) + (pz_by b len (a + 1))) - 48) * 10) + (pz_by b len (a + 2))) - 48)]) rfl rfl rfl rfl ?_
          refine ax_s (pc' := 56) (ls' := [some (.ref 18), some (.int p), some (.int q), some (.int 2), some (.int ((((((((0 + (pz_by b len (a + 0))) - 48) * 10) + (pz_by b len (a + 1))) - 48) * 10) + (pz_by b len (a + 2))) - 48))]) (st' := []) rfl rfl rfl rfl ?_
          refine ax_s (pc' := 59) (ls' := [some (.ref 18), some (.int p), some (.int q), some (.int 3), some (.int ((((((((0 + (pz_by b len (a + 0))) - 48) * 10) + (pz_by b len (a + 1))) - 48) * 10) + (pz_by b len (a + 2))) - 48))]) (st' := []) rfl rfl rfl rfl ?_
          refine ax_s (pc' := 14) (st' := []) rfl rfl rfl rfl ?_
          refine ax_s (pc' := 15) (st' := [.int 3]) rfl rfl rfl rfl ?_
          refine ax_s (pc' := 16) (st' := [.int 3, .int 3]) rfl rfl rfl rfl ?_
          refine ax_cmp_ge rfl (fun c15 => ?_) (fun c15 => False.elim (by revert c15; decide))
          refine ax_s (pc' := 63) (st' := [.int 3]) rfl rfl rfl rfl ?_
          refine ax_if_eq rfl (fun c16 => False.elim (by revert c16; decide)) (fun c16 => ?_)
          refine ax_s (pc' := 67) (st' := [.int 3]) rfl rfl rfl rfl ?_
          refine ax_s (pc' := 68) (st' := [.int 3, .int 3]) rfl rfl rfl rfl ?_
          refine ax_cmp_ne rfl (fun c17 => False.elim (by revert c17; decide)) (fun c17 => ?_)
          refine ax_s (pc' := 72) (st' := [.ref 18]) rfl rfl rfl rfl ?_
          refine ax_s (pc' := 73) (st' := [.int 1, .ref 18]) rfl rfl rfl rfl ?_
          refine ax_put rfl (hh_18 _ _ _) rfl rfl (show 1 + 1 ≤ _ from Nat.le_of_ble_eq_true rfl) rfl (am_hh_set _ _ _ 18 1 _ rfl) ?_
          refine ax_s (pc' := 107) (st' := []) rfl rfl rfl rfl ?_
          refine ax_s (pc' := 109) (st' := [.int ((((((((0 + (pz_by b len (a + 0))) - 48) * 10) + (pz_by b len (a + 1))) - 48) * 10) + (pz_by b len (a + 2))) - 48)]) rfl rfl rfl rfl ?_
          refine ax_r rfl rfl rfl ?_
          exact k6 c1 c3 c6 c11
  · refine ax_s (pc' := 8) (st' := [.int 0]) rfl rfl rfl rfl ?_
    refine ax_r rfl rfl rfl ?_
    exact k7 c1
theorem wp_sign {d : Nat} {X : Nat × (Nat → Int32)} {S : Nat → Nat → Int32} {L : Nat → Int64} {b : Nat → Int32} {len a : Nat} {p : Int32} {Q : Option Value → am_H → Prop} (ha : S 285 21 = nI a) (ha1 : a < 2 ^ 31) (hl : S 285 5 = nI len) (hl1 : len ≤ 100) (hb : ∀ i, i < 100 → S 289 i = b i)  (k1 : ¬ (S 285 23) = 0 → Q none (am_hh X S L)) (k2 : (S 285 23) = 0 → ¬ (pz_by b len a) = p → Q none (am_hh X (am_u (am_u S 285 23 1) 285 22 (S 285 21)) L)) (k3 : (S 285 23) = 0 → (pz_by b len a) = p → Q none (am_hh X (am_u S 285 21 ((S 285 21) + 1)) L)) : am_mt (d + 2) 160 [.ref 285, .int p] (am_hh X S L) Q := by
  refine ax_in (ls := [some (.ref 285), some (.int p)]) rfl ?_
  refine ax_s (pc' := 1) (st' := [.ref 285]) rfl rfl rfl rfl ?_
  refine ax_get rfl (hh_285 _ _ _) rfl rfl rfl ?_
  show am_ex (d + 2) 160 4 [some (.ref 285), some (.int p)] [.int (S 285 23)] (am_hh X S L) _
  refine ax_if_ne rfl (fun c1 => ?_) (fun c1 => ?_)
  · refine ax_s (pc' := 29) (st' := [.ref 285]) rfl rfl rfl rfl ?_
    refine ax_s (pc' := 30) (st' := [.int 1, .ref 285]) rfl rfl rfl rfl ?_
    refine ax_call (vs := [.ref 285, .int 1]) (rr := []) rfl rfl rfl ?_
    refine ax_in (ls := [some (.ref 285), some (.int 1)]) rfl ?_
    refine ax_s (pc' := 1) (st' := [.ref 285]) rfl rfl rfl rfl ?_
    refine ax_get rfl (hh_285 _ _ _) rfl rfl rfl ?_
    show am_ex (d + 1) 162 4 [some (.ref 285), some (.int 1)] [.int (S 285 23)] (am_hh X S L) _
    refine ax_if_ne rfl (fun c2 => ?_) (fun c2 => False.elim (by first | exact c2 c1 | exact c1 c2))
    refine ax_r rfl rfl rfl ?_
    show am_ex (d + 2) 160 33 [some (.ref 285), some (.int p)] [] (am_hh X S L) _
    refine ax_r rfl rfl rfl ?_
    exact k1 c1
  · refine ax_s (pc' := 8) (st' := [.ref 285]) rfl rfl rfl rfl ?_
    refine ax_call (vs := [.ref 285]) (rr := []) rfl rfl rfl ?_
    refine mt_here (b := b) ha ha1 hl hl1 hb ?_
    show am_ex (d + 2) 160 11 [some (.ref 285), some (.int p)] [.int (pz_by b len a)] (am_hh X S L) _
    refine ax_s (pc' := 12) (st' := [.int p, .int (pz_by b len a)]) rfl rfl rfl rfl ?_
    refine ax_cmp_ne rfl (fun c3 => ?_) (fun c3 => ?_)
    · refine ax_s (pc' := 29) (st' := [.ref 285]) rfl rfl rfl rfl ?_
      refine ax_s (pc' := 30) (st' := [.int 1, .ref 285]) rfl rfl rfl rfl ?_
      refine ax_call (vs := [.ref 285, .int 1]) (rr := []) rfl rfl rfl ?_
      refine ax_in (ls := [some (.ref 285), some (.int 1)]) rfl ?_
      refine ax_s (pc' := 1) (st' := [.ref 285]) rfl rfl rfl rfl ?_
      refine ax_get rfl (hh_285 _ _ _) rfl rfl rfl ?_
      show am_ex (d + 1) 162 4 [some (.ref 285), some (.int 1)] [.int (S 285 23)] (am_hh X S L) _
      refine ax_if_ne rfl (fun c4 => False.elim (by first | exact c4 c1 | exact c1 c4)) (fun c4 => ?_)
      refine ax_s (pc' := 8) (st' := [.ref 285]) rfl rfl rfl rfl ?_
      refine ax_s (pc' := 9) (st' := [.int 1, .ref 285]) rfl rfl rfl rfl ?_
      refine ax_put rfl (hh_285 _ _ _) rfl rfl (show 23 + 1 ≤ _ from Nat.le_of_ble_eq_true rfl) rfl (am_hh_set _ _ _ 285 23 _ rfl) ?_
      refine ax_s (pc' := 13) (st' := [.ref 285]) rfl rfl rfl rfl ?_
      refine ax_s (pc' := 14) (st' := [.ref 285, .ref 285]) rfl rfl rfl rfl ?_
      refine ax_get rfl (hh_285 _ _ _) rfl rfl rfl ?_
      show am_ex (d + 1) 162 17 [some (.ref 285), some (.int 1)] [.int (S 285 21), .ref 285] (am_hh X (am_u S 285 23 1) L) _
      refine ax_put rfl (hh_285 _ _ _) rfl rfl (show 22 + 1 ≤ _ from Nat.le_of_ble_eq_true rfl) rfl (am_hh_set _ _ _ 285 22 _ rfl) ?_
      refine ax_r rfl rfl rfl ?_
      show am_ex (d + 2) 160 33 [some (.ref 285), some (.int p)] [] (am_hh X (am_u (am_u S 285 23 1) 285 22 (S 285 21)) L) _
      refine ax_r rfl rfl rfl ?_
      exact k2 c1 c3
    · refine ax_s (pc' := 16) (st' := [.ref 285]) rfl rfl rfl rfl ?_
      refine ax_s (pc' := 17) (st' := [.ref 285, .ref 285]) rfl rfl rfl rfl ?_
      refine ax_get rfl (hh_285 _ _ _) rfl rfl rfl ?_
      show am_ex (d + 2) 160 20 [some (.ref 285), some (.int p)] [.int (S 285 21), .ref 285] (am_hh X S L) _
      refine ax_s (pc' := 21) (st' := [.int 1, .int (S 285 21), .ref 285]) rfl rfl rfl rfl ?_
      refine ax_s (pc' := 22) (st' := [.int ((S 285 21) + 1), .ref 285]) rfl rfl rfl rfl ?_
      refine ax_put rfl (hh_285 _ _ _) rfl rfl (show 21 + 1 ≤ _ from Nat.le_of_ble_eq_true rfl) rfl (am_hh_set _ _ _ 285 21 _ rfl) ?_
      refine ax_s (pc' := 33) (st' := []) rfl rfl rfl rfl ?_
      refine ax_r rfl rfl rfl ?_
      exact k3 c1 c3
theorem wl_figures {d : Nat} {X : Nat × (Nat → Int32)} {S : Nat → Nat → Int32} {L : Nat → Int64} {b : Nat → Int32} {len a : Nat} {j : Nat} {Q : Option Value → am_H → Prop} (ha : S 285 21 = nI a) (ha1 : a < 2 ^ 31) (hl : S 285 5 = nI len) (hl1 : len ≤ 100) (hb : ∀ i, i < 100 → S 289 i = b i)  (x1 : ¬ (S 285 5) ≤ ((S 285 21) + (nI j)) → (a + j) < 100) (k1 : (S 285 5) ≤ ((S 285 21) + (nI j)) → Q (some (.int (nI j))) (am_hh X S L)) (k2 : ¬ (S 285 5) ≤ ((S 285 21) + (nI j)) → ¬ (¬ (S 289 (a + j)) < 48 ∧ ¬ 57 < (S 289 (a + j))) → Q (some (.int (nI j))) (am_hh X S L)) (k3 : ¬ (S 285 5) ≤ ((S 285 21) + (nI j)) → ¬ (S 289 (a + j)) < 48 ∧ ¬ 57 < (S 289 (a + j)) → am_ex (d + 2) 164 2 [some (.ref 285), some (.int (nI (j + 1)))] [] (am_hh X S L) Q) : am_ex (d + 2) 164 2 [some (.ref 285), some (.int (nI j))] [] (am_hh X S L) Q := by
  refine ax_s (pc' := 3) (st' := [.ref 285]) rfl rfl rfl rfl ?_
  refine ax_get rfl (hh_285 _ _ _) rfl rfl rfl ?_
  show am_ex (d + 2) 164 6 [some (.ref 285), some (.int (nI j))] [.int (S 285 21)] (am_hh X S L) _
  refine ax_s (pc' := 7) (st' := [.int (nI j), .int (S 285 21)]) rfl rfl rfl rfl ?_
  refine ax_s (pc' := 8) (st' := [.int ((S 285 21) + (nI j))]) rfl rfl rfl rfl ?_
  refine ax_s (pc' := 9) (st' := [.ref 285, .int ((S 285 21) + (nI j))]) rfl rfl rfl rfl ?_
  refine ax_get rfl (hh_285 _ _ _) rfl rfl rfl ?_
  show am_ex (d + 2) 164 12 [some (.ref 285), some (.int (nI j))] [.int (S 285 5), .int ((S 285 21) + (nI j))] (am_hh X S L) _
  refine ax_cmp_ge rfl (fun c1 => ?_) (fun c1 => ?_)
  · refine ax_s (pc' := 43) (st' := [.int (nI j)]) rfl rfl rfl rfl ?_
    refine ax_r rfl rfl rfl ?_
    exact k1 c1
  · refine ax_s (pc' := 16) (st' := [.ref 285]) rfl rfl rfl rfl ?_
    refine ax_get rfl (hh_285 _ _ _) rfl rfl rfl ?_
    show am_ex (d + 2) 164 19 [some (.ref 285), some (.int (nI j))] [.ref 289] (am_hh X S L) _
    refine ax_s (pc' := 20) (st' := [.ref 285, .ref 289]) rfl rfl rfl rfl ?_
    refine ax_get rfl (hh_285 _ _ _) rfl rfl rfl ?_
    show am_ex (d + 2) 164 23 [some (.ref 285), some (.int (nI j))] [.int (S 285 21), .ref 289] (am_hh X S L) _
    refine ax_s (pc' := 24) (st' := [.int (nI j), .int (S 285 21), .ref 289]) rfl rfl rfl rfl ?_
    refine ax_s (pc' := 25) (st' := [.int ((S 285 21) + (nI j)), .ref 289]) rfl rfl rfl rfl ?_
    refine ax_ald (j := (a + j)) (v := (S 289 (a + j))) rfl (hh_289 _ _ _) rfl (am_na (x := a) (y := j) ha rfl) (x1 c1) (by decide) rfl ?_
    refine ax_s (pc' := 28) (st' := [.int 48, .int (S 289 (a + j))]) rfl rfl rfl rfl ?_
    refine ax_s (pc' := 30) (st' := [.int 57, .int 48, .int (S 289 (a + j))]) rfl rfl rfl rfl ?_
    refine ax_call (vs := [.int (S 289 (a + j)), .int 48, .int 57]) (rr := []) rfl rfl rfl ?_
    refine mt_in ?_
    show am_ex (d + 2) 164 33 [some (.ref 285), some (.int (nI j))] [.int (bI (decide (¬ (S 289 (a + j)) < 48 ∧ ¬ 57 < (S 289 (a + j)))))] (am_hh X S L) _
    refine ax_pF rfl (fun c2 => ?_) (fun c2 => ?_)
    · refine ax_s (pc' := 43) (st' := [.int (nI j)]) rfl rfl rfl rfl ?_
      refine ax_r rfl rfl rfl ?_
      exact k2 c1 c2
    · refine ax_s (pc' := 39) (ls' := [some (.ref 285), some (.int ((nI j) + 1))]) (st' := []) rfl rfl rfl rfl ?_
      rw [nI_1]
      refine ax_s (pc' := 2) (st' := []) rfl rfl rfl rfl ?_
      exact k3 c1 c2
theorem wp_figures {d : Nat} {X : Nat × (Nat → Int32)} {S : Nat → Nat → Int32} {L : Nat → Int64} {Q : Option Value → am_H → Prop}  (k1 : am_ex (d + 2) 164 2 [some (.ref 285), some (.int 0)] [] (am_hh X S L) Q) : am_mt (d + 2) 164 [.ref 285] (am_hh X S L) Q := by
  refine ax_in (ls := [some (.ref 285), none]) rfl ?_
  refine ax_s (pc' := 1) (st' := [.int 0]) rfl rfl rfl rfl ?_
  refine ax_s (pc' := 2) (ls' := [some (.ref 285), some (.int 0)]) (st' := []) rfl rfl rfl rfl ?_
  exact k1
