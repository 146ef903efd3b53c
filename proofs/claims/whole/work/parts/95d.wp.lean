theorem wk_as_1_0 {d : Nat} {X : Nat × (Nat → Int32)} {S : Nat → Nat → Int32} {L : Nat → Int64} {j : Nat} {Q : Option Value → am_H → Prop} (hk : S 22 j = 1) (hj : j < 6)  (x1 : ¬ (nI j) < 0 ∧ ¬ (S 20 4) ≤ (nI j) → j < 6) (k1 : ¬ (¬ (nI j) < 0 ∧ ¬ (S 20 4) ≤ (nI j)) → Q (some (.int (-1000001))) (am_hh X S L)) (k2 : ¬ (nI j) < 0 ∧ ¬ (S 20 4) ≤ (nI j) → Q (some (.int (nI j))) (am_hh X (am_u S 5 12 0) L)) : am_mt (d + 4) 133 [.ref 5, .int (nI j), .int 0] (am_hh X S L) Q := by
  refine ax_in (ls := [some (.ref 5), some (.int (nI j)), some (.int 0)]) rfl ?_
  refine ax_s (pc' := 1) (st' := [.ref 5]) rfl rfl rfl rfl ?_
  refine ax_get rfl (hh_5 _ _ _) rfl rfl rfl ?_
  show am_ex (d + 4) 133 4 [some (.ref 5), some (.int (nI j)), some (.int 0)] [.ref 20] (am_hh X S L) _
  refine ax_s (pc' := 5) (st' := [.int (nI j), .ref 20]) rfl rfl rfl rfl ?_
  refine ax_call (vs := [.ref 20, .int (nI j)]) (rr := []) rfl rfl rfl ?_
  refine kw (am_hh_sub isW20 X S L) (am_hh_sub isW20 X S L).symm (fun _ => ct_hasParty (am_isW_k isW20 X S L)) ?_
  show am_ex (d + 4) 133 8 [some (.ref 5), some (.int (nI j)), some (.int 0)] [.int (bI (decide (¬ (nI j) < 0 ∧ ¬ (S 20 4) ≤ (nI j))))] (am_hh X S L) _
  refine ax_pF rfl (fun c1 => ?_) (fun c1 => ?_)
  · refine ax_s (pc' := 22) (st' := [.int (-1000001)]) rfl rfl rfl rfl ?_
    refine ax_r rfl rfl rfl ?_
    exact k1 c1
  · refine ax_s (pc' := 12) (st' := [.int 0]) rfl rfl rfl rfl ?_
    refine ax_s (pc' := 13) (st' := [.int 0, .int 0]) rfl rfl rfl rfl ?_
    refine ax_s (pc' := 14) (st' := [.int 5, .int 0, .int 0]) rfl rfl rfl rfl ?_
    refine ax_call (vs := [.int 0, .int 0, .int 5]) (rr := []) rfl rfl rfl ?_
    refine ct_isOutside ?_
    show am_ex (d + 4) 133 17 [some (.ref 5), some (.int (nI j)), some (.int 0)] [.int 0] (am_hh X S L) _
    refine ax_if_eq rfl (fun c2 => ?_) (fun c2 => False.elim (by revert c2; decide))
    refine ax_s (pc' := 24) (st' := [.ref 5]) rfl rfl rfl rfl ?_
    refine ax_get rfl (hh_5 _ _ _) rfl rfl rfl ?_
    show am_ex (d + 4) 133 27 [some (.ref 5), some (.int (nI j)), some (.int 0)] [.ref 20] (am_hh X S L) _
    refine ax_get rfl (hh_20 _ _ _) rfl rfl rfl ?_
    show am_ex (d + 4) 133 30 [some (.ref 5), some (.int (nI j)), some (.int 0)] [.ref 22] (am_hh X S L) _
    refine ax_s (pc' := 31) (st' := [.int (nI j), .ref 22]) rfl rfl rfl rfl ?_
    refine ax_ald (j := j) (v := 1) rfl (hh_22 _ _ _) rfl rfl (x1 c1) (by decide) hk ?_
    refine ax_s (pc' := 33) (st' := [.int 0, .int 1]) rfl rfl rfl rfl ?_
    refine ax_call (vs := [.int 1, .int 0]) (rr := []) rfl rfl rfl ?_
    refine kt_isSuch_1_0 ?_
    show am_ex (d + 4) 133 36 [some (.ref 5), some (.int (nI j)), some (.int 0)] [.int 1] (am_hh X S L) _
    refine ax_if_ne rfl (fun c3 => ?_) (fun c3 => False.elim (by revert c3; decide))
    refine ax_s (pc' := 46) (st' := [.ref 5]) rfl rfl rfl rfl ?_
    refine ax_s (pc' := 47) (st' := [.int (nI j), .ref 5]) rfl rfl rfl rfl ?_
    refine ax_call (vs := [.ref 5, .int (nI j)]) (rr := []) rfl rfl rfl ?_
    refine ax_in (ls := [some (.ref 5), some (.int (nI j))]) rfl ?_
    refine ax_s (pc' := 1) (st' := [.ref 5]) rfl rfl rfl rfl ?_
    refine ax_s (pc' := 2) (st' := [.int 0, .ref 5]) rfl rfl rfl rfl ?_
    refine ax_put rfl (hh_5 _ _ _) rfl rfl (show 12 + 1 ≤ _ from Nat.le_of_ble_eq_true rfl) rfl (am_hh_set _ _ _ 5 12 _ rfl) ?_
    refine ax_s (pc' := 6) (st' := [.int (nI j)]) rfl rfl rfl rfl ?_
    refine ax_r rfl rfl rfl ?_
    show am_ex (d + 4) 133 50 [some (.ref 5), some (.int (nI j)), some (.int 0)] [.int (nI j)] (am_hh X (am_u S 5 12 0) L) _
    refine ax_r rfl rfl rfl ?_
    exact k2 c1
theorem wm_as_1_0 {d : Nat} {X : Nat × (Nat → Int32)} {S : Nat → Nat → Int32} {L : Nat → Int64} {j : Nat} {Q : Option Value → am_H → Prop} (hk : S 290 j = 1) (hj : j < 6)  (x1 : ¬ (nI j) < 0 ∧ ¬ (S 285 7) - 1 < (nI j) → j < 6) (k1 : ¬ (¬ (nI j) < 0 ∧ ¬ (S 285 7) - 1 < (nI j)) → Q (some (.int (-1000001))) (am_hh X S L)) (k2 : ¬ (nI j) < 0 ∧ ¬ (S 285 7) - 1 < (nI j) → Q (some (.int (nI j))) (am_hh X (am_u S 285 3 0) L)) : am_mt (d + 4) 222 [.ref 285, .int (nI j), .int 0] (am_hh X S L) Q := by
  refine ax_in (ls := [some (.ref 285), some (.int (nI j)), some (.int 0)]) rfl ?_
  refine ax_s (pc' := 1) (st' := [.ref 285]) rfl rfl rfl rfl ?_
  refine ax_s (pc' := 2) (st' := [.int (nI j), .ref 285]) rfl rfl rfl rfl ?_
  refine ax_call (vs := [.ref 285, .int (nI j)]) (rr := []) rfl rfl rfl ?_
  refine mt_isParty  ?_
  show am_ex (d + 4) 222 5 [some (.ref 285), some (.int (nI j)), some (.int 0)] [.int (bI (decide (¬ (nI j) < 0 ∧ ¬ (S 285 7) - 1 < (nI j))))] (am_hh X S L) _
  refine ax_pF rfl (fun c1 => ?_) (fun c1 => ?_)
  · refine ax_s (pc' := 19) (st' := [.int (-1000001)]) rfl rfl rfl rfl ?_
    refine ax_r rfl rfl rfl ?_
    exact k1 c1
  · refine ax_s (pc' := 9) (st' := [.int 0]) rfl rfl rfl rfl ?_
    refine ax_s (pc' := 10) (st' := [.int 0, .int 0]) rfl rfl rfl rfl ?_
    refine ax_s (pc' := 11) (st' := [.int 5, .int 0, .int 0]) rfl rfl rfl rfl ?_
    refine ax_call (vs := [.int 0, .int 0, .int 5]) (rr := []) rfl rfl rfl ?_
    refine mt_in ?_
    show am_ex (d + 4) 222 14 [some (.ref 285), some (.int (nI j)), some (.int 0)] [.int 1] (am_hh X S L) _
    refine ax_if_ne rfl (fun c2 => ?_) (fun c2 => False.elim (by revert c2; decide))
    refine ax_s (pc' := 21) (st' := [.ref 285]) rfl rfl rfl rfl ?_
    refine ax_s (pc' := 22) (st' := [.int (nI j), .ref 285]) rfl rfl rfl rfl ?_
    refine ax_s (pc' := 23) (st' := [.int 0, .int (nI j), .ref 285]) rfl rfl rfl rfl ?_
    refine ax_call (vs := [.ref 285, .int (nI j), .int 0]) (rr := []) rfl rfl rfl ?_
    refine ax_in (ls := [some (.ref 285), some (.int (nI j)), some (.int 0), none]) rfl ?_
    refine ax_s (pc' := 1) (st' := [.ref 285]) rfl rfl rfl rfl ?_
    refine ax_get rfl (hh_285 _ _ _) rfl rfl rfl ?_
    show am_ex (d + 3) 223 4 [some (.ref 285), some (.int (nI j)), some (.int 0), none] [.ref 290] (am_hh X S L) _
    refine ax_s (pc' := 5) (st' := [.int (nI j), .ref 290]) rfl rfl rfl rfl ?_
    refine ax_ald (j := j) (v := 1) rfl (hh_290 _ _ _) rfl rfl (x1 c1) (by decide) hk ?_
    refine ax_s (pc' := 7) (ls' := [some (.ref 285), some (.int (nI j)), some (.int 0), some (.int 1)]) (st' := []) rfl rfl rfl rfl ?_
    refine ax_s (pc' := 8) (st' := [.int 0]) rfl rfl rfl rfl ?_
    refine ax_if_eq rfl (fun c3 => ?_) (fun c3 => False.elim (by revert c3; decide))
    refine ax_s (pc' := 37) (st' := [.int 1]) rfl rfl rfl rfl ?_
    refine ax_s (pc' := 41) (st' := [.int 1]) rfl rfl rfl rfl ?_
    refine ax_rb (b := true) rfl rfl ?_
    show am_ex (d + 4) 222 26 [some (.ref 285), some (.int (nI j)), some (.int 0)] [.int 1] (am_hh X S L) _
    refine ax_if_ne rfl (fun c4 => ?_) (fun c4 => False.elim (by revert c4; decide))
    refine ax_s (pc' := 36) (st' := [.ref 285]) rfl rfl rfl rfl ?_
    refine ax_s (pc' := 37) (st' := [.int 0, .ref 285]) rfl rfl rfl rfl ?_
    refine ax_put rfl (hh_285 _ _ _) rfl rfl (show 3 + 1 ≤ _ from Nat.le_of_ble_eq_true rfl) rfl (am_hh_set _ _ _ 285 3 _ rfl) ?_
    refine ax_s (pc' := 41) (st' := [.int (nI j)]) rfl rfl rfl rfl ?_
    refine ax_r rfl rfl rfl ?_
    exact k2 c1
theorem wk_as_1_1 {d : Nat} {X : Nat × (Nat → Int32)} {S : Nat → Nat → Int32} {L : Nat → Int64} {j : Nat} {Q : Option Value → am_H → Prop} (hk : S 22 j = 1) (hj : j < 6)  (x1 : ¬ (nI j) < 0 ∧ ¬ (S 20 4) ≤ (nI j) → j < 6) (k1 : ¬ (¬ (nI j) < 0 ∧ ¬ (S 20 4) ≤ (nI j)) → Q (some (.int (-1000001))) (am_hh X S L)) (k2 : ¬ (nI j) < 0 ∧ ¬ (S 20 4) ≤ (nI j) → Q (some (.int (nI j))) (am_hh X (am_u S 5 12 0) L)) : am_mt (d + 4) 133 [.ref 5, .int (nI j), .int 1] (am_hh X S L) Q := by
  refine ax_in (ls := [some (.ref 5), some (.int (nI j)), some (.int 1)]) rfl ?_
  refine ax_s (pc' := 1) (st' := [.ref 5]) rfl rfl rfl rfl ?_
  refine ax_get rfl (hh_5 _ _ _) rfl rfl rfl ?_
  show am_ex (d + 4) 133 4 [some (.ref 5), some (.int (nI j)), some (.int 1)] [.ref 20] (am_hh X S L) _
  refine ax_s (pc' := 5) (st' := [.int (nI j), .ref 20]) rfl rfl rfl rfl ?_
  refine ax_call (vs := [.ref 20, .int (nI j)]) (rr := []) rfl rfl rfl ?_
  refine kw (am_hh_sub isW20 X S L) (am_hh_sub isW20 X S L).symm (fun _ => ct_hasParty (am_isW_k isW20 X S L)) ?_
  show am_ex (d + 4) 133 8 [some (.ref 5), some (.int (nI j)), some (.int 1)] [.int (bI (decide (¬ (nI j) < 0 ∧ ¬ (S 20 4) ≤ (nI j))))] (am_hh X S L) _
  refine ax_pF rfl (fun c1 => ?_) (fun c1 => ?_)
  · refine ax_s (pc' := 22) (st' := [.int (-1000001)]) rfl rfl rfl rfl ?_
    refine ax_r rfl rfl rfl ?_
    exact k1 c1
  · refine ax_s (pc' := 12) (st' := [.int 1]) rfl rfl rfl rfl ?_
    refine ax_s (pc' := 13) (st' := [.int 0, .int 1]) rfl rfl rfl rfl ?_
    refine ax_s (pc' := 14) (st' := [.int 5, .int 0, .int 1]) rfl rfl rfl rfl ?_
    refine ax_call (vs := [.int 1, .int 0, .int 5]) (rr := []) rfl rfl rfl ?_
    refine ct_isOutside ?_
    show am_ex (d + 4) 133 17 [some (.ref 5), some (.int (nI j)), some (.int 1)] [.int 0] (am_hh X S L) _
    refine ax_if_eq rfl (fun c2 => ?_) (fun c2 => False.elim (by revert c2; decide))
    refine ax_s (pc' := 24) (st' := [.ref 5]) rfl rfl rfl rfl ?_
    refine ax_get rfl (hh_5 _ _ _) rfl rfl rfl ?_
    show am_ex (d + 4) 133 27 [some (.ref 5), some (.int (nI j)), some (.int 1)] [.ref 20] (am_hh X S L) _
    refine ax_get rfl (hh_20 _ _ _) rfl rfl rfl ?_
    show am_ex (d + 4) 133 30 [some (.ref 5), some (.int (nI j)), some (.int 1)] [.ref 22] (am_hh X S L) _
    refine ax_s (pc' := 31) (st' := [.int (nI j), .ref 22]) rfl rfl rfl rfl ?_
    refine ax_ald (j := j) (v := 1) rfl (hh_22 _ _ _) rfl rfl (x1 c1) (by decide) hk ?_
    refine ax_s (pc' := 33) (st' := [.int 1, .int 1]) rfl rfl rfl rfl ?_
    refine ax_call (vs := [.int 1, .int 1]) (rr := []) rfl rfl rfl ?_
    refine kt_isSuch_1_1 ?_
    show am_ex (d + 4) 133 36 [some (.ref 5), some (.int (nI j)), some (.int 1)] [.int 1] (am_hh X S L) _
    refine ax_if_ne rfl (fun c3 => ?_) (fun c3 => False.elim (by revert c3; decide))
    refine ax_s (pc' := 46) (st' := [.ref 5]) rfl rfl rfl rfl ?_
    refine ax_s (pc' := 47) (st' := [.int (nI j), .ref 5]) rfl rfl rfl rfl ?_
    refine ax_call (vs := [.ref 5, .int (nI j)]) (rr := []) rfl rfl rfl ?_
    refine ax_in (ls := [some (.ref 5), some (.int (nI j))]) rfl ?_
    refine ax_s (pc' := 1) (st' := [.ref 5]) rfl rfl rfl rfl ?_
    refine ax_s (pc' := 2) (st' := [.int 0, .ref 5]) rfl rfl rfl rfl ?_
    refine ax_put rfl (hh_5 _ _ _) rfl rfl (show 12 + 1 ≤ _ from Nat.le_of_ble_eq_true rfl) rfl (am_hh_set _ _ _ 5 12 _ rfl) ?_
    refine ax_s (pc' := 6) (st' := [.int (nI j)]) rfl rfl rfl rfl ?_
    refine ax_r rfl rfl rfl ?_
    show am_ex (d + 4) 133 50 [some (.ref 5), some (.int (nI j)), some (.int 1)] [.int (nI j)] (am_hh X (am_u S 5 12 0) L) _
    refine ax_r rfl rfl rfl ?_
    exact k2 c1
theorem wm_as_1_1 {d : Nat} {X : Nat × (Nat → Int32)} {S : Nat → Nat → Int32} {L : Nat → Int64} {j : Nat} {Q : Option Value → am_H → Prop} (hk : S 290 j = 1) (hj : j < 6)  (x1 : ¬ (nI j) < 0 ∧ ¬ (S 285 7) - 1 < (nI j) → j < 6) (k1 : ¬ (¬ (nI j) < 0 ∧ ¬ (S 285 7) - 1 < (nI j)) → Q (some (.int (-1000001))) (am_hh X S L)) (k2 : ¬ (nI j) < 0 ∧ ¬ (S 285 7) - 1 < (nI j) → Q (some (.int (nI j))) (am_hh X (am_u S 285 3 0) L)) : am_mt (d + 4) 222 [.ref 285, .int (nI j), .int 1] (am_hh X S L) Q := by
  refine ax_in (ls := [some (.ref 285), some (.int (nI j)), some (.int 1)]) rfl ?_
  refine ax_s (pc' := 1) (st' := [.ref 285]) rfl rfl rfl rfl ?_
  refine ax_s (pc' := 2) (st' := [.int (nI j), .ref 285]) rfl rfl rfl rfl ?_
  refine ax_call (vs := [.ref 285, .int (nI j)]) (rr := []) rfl rfl rfl ?_
  refine mt_isParty  ?_
  show am_ex (d + 4) 222 5 [some (.ref 285), some (.int (nI j)), some (.int 1)] [.int (bI (decide (¬ (nI j) < 0 ∧ ¬ (S 285 7) - 1 < (nI j))))] (am_hh X S L) _
  refine ax_pF rfl (fun c1 => ?_) (fun c1 => ?_)
  · refine ax_s (pc' := 19) (st' := [.int (-1000001)]) rfl rfl rfl rfl ?_
    refine ax_r rfl rfl rfl ?_
    exact k1 c1
  · refine ax_s (pc' := 9) (st' := [.int 1]) rfl rfl rfl rfl ?_
    refine ax_s (pc' := 10) (st' := [.int 0, .int 1]) rfl rfl rfl rfl ?_
    refine ax_s (pc' := 11) (st' := [.int 5, .int 0, .int 1]) rfl rfl rfl rfl ?_
    refine ax_call (vs := [.int 1, .int 0, .int 5]) (rr := []) rfl rfl rfl ?_
    refine mt_in ?_
    show am_ex (d + 4) 222 14 [some (.ref 285), some (.int (nI j)), some (.int 1)] [.int 1] (am_hh X S L) _
    refine ax_if_ne rfl (fun c2 => ?_) (fun c2 => False.elim (by revert c2; decide))
    refine ax_s (pc' := 21) (st' := [.ref 285]) rfl rfl rfl rfl ?_
    refine ax_s (pc' := 22) (st' := [.int (nI j), .ref 285]) rfl rfl rfl rfl ?_
    refine ax_s (pc' := 23) (st' := [.int 1, .int (nI j), .ref 285]) rfl rfl rfl rfl ?_
    refine ax_call (vs := [.ref 285, .int (nI j), .int 1]) (rr := []) rfl rfl rfl ?_
    refine ax_in (ls := [some (.ref 285), some (.int (nI j)), some (.int 1), none]) rfl ?_
    refine ax_s (pc' := 1) (st' := [.ref 285]) rfl rfl rfl rfl ?_
    refine ax_get rfl (hh_285 _ _ _) rfl rfl rfl ?_
    show am_ex (d + 3) 223 4 [some (.ref 285), some (.int (nI j)), some (.int 1), none] [.ref 290] (am_hh X S L) _
    refine ax_s (pc' := 5) (st' := [.int (nI j), .ref 290]) rfl rfl rfl rfl ?_
    refine ax_ald (j := j) (v := 1) rfl (hh_290 _ _ _) rfl rfl (x1 c1) (by decide) hk ?_
    refine ax_s (pc' := 7) (ls' := [some (.ref 285), some (.int (nI j)), some (.int 1), some (.int 1)]) (st' := []) rfl rfl rfl rfl ?_
    refine ax_s (pc' := 8) (st' := [.int 1]) rfl rfl rfl rfl ?_
    refine ax_if_eq rfl (fun c3 => False.elim (by revert c3; decide)) (fun c3 => ?_)
    refine ax_s (pc' := 12) (st' := [.int 1]) rfl rfl rfl rfl ?_
    refine ax_s (pc' := 13) (st' := [.int 1, .int 1]) rfl rfl rfl rfl ?_
    refine ax_cmp_eq rfl (fun c4 => ?_) (fun c4 => False.elim (by revert c4; decide))
    refine ax_s (pc' := 37) (st' := [.int 1]) rfl rfl rfl rfl ?_
    refine ax_s (pc' := 41) (st' := [.int 1]) rfl rfl rfl rfl ?_
    refine ax_rb (b := true) rfl rfl ?_
    show am_ex (d + 4) 222 26 [some (.ref 285), some (.int (nI j)), some (.int 1)] [.int 1] (am_hh X S L) _
    refine ax_if_ne rfl (fun c5 => ?_) (fun c5 => False.elim (by revert c5; decide))
    refine ax_s (pc' := 36) (st' := [.ref 285]) rfl rfl rfl rfl ?_
    refine ax_s (pc' := 37) (st' := [.int 0, .ref 285]) rfl rfl rfl rfl ?_
    refine ax_put rfl (hh_285 _ _ _) rfl rfl (show 3 + 1 ≤ _ from Nat.le_of_ble_eq_true rfl) rfl (am_hh_set _ _ _ 285 3 _ rfl) ?_
    refine ax_s (pc' := 41) (st' := [.int (nI j)]) rfl rfl rfl rfl ?_
    refine ax_r rfl rfl rfl ?_
    exact k2 c1
theorem wk_as_1_2 {d : Nat} {X : Nat × (Nat → Int32)} {S : Nat → Nat → Int32} {L : Nat → Int64} {j : Nat} {Q : Option Value → am_H → Prop} (hk : S 22 j = 1) (hj : j < 6)  (x1 : ¬ (nI j) < 0 ∧ ¬ (S 20 4) ≤ (nI j) → j < 6) (k1 : ¬ (¬ (nI j) < 0 ∧ ¬ (S 20 4) ≤ (nI j)) → Q (some (.int (-1000001))) (am_hh X S L)) (k2 : ¬ (nI j) < 0 ∧ ¬ (S 20 4) ≤ (nI j) → Q (some (.int (-1000013))) (am_hh X (am_u S 5 12 3) L)) : am_mt (d + 4) 133 [.ref 5, .int (nI j), .int 2] (am_hh X S L) Q := by
  refine ax_in (ls := [some (.ref 5), some (.int (nI j)), some (.int 2)]) rfl ?_
  refine ax_s (pc' := 1) (st' := [.ref 5]) rfl rfl rfl rfl ?_
  refine ax_get rfl (hh_5 _ _ _) rfl rfl rfl ?_
  show am_ex (d + 4) 133 4 [some (.ref 5), some (.int (nI j)), some (.int 2)] [.ref 20] (am_hh X S L) _
  refine ax_s (pc' := 5) (st' := [.int (nI j), .ref 20]) rfl rfl rfl rfl ?_
  refine ax_call (vs := [.ref 20, .int (nI j)]) (rr := []) rfl rfl rfl ?_
  refine kw (am_hh_sub isW20 X S L) (am_hh_sub isW20 X S L).symm (fun _ => ct_hasParty (am_isW_k isW20 X S L)) ?_
  show am_ex (d + 4) 133 8 [some (.ref 5), some (.int (nI j)), some (.int 2)] [.int (bI (decide (¬ (nI j) < 0 ∧ ¬ (S 20 4) ≤ (nI j))))] (am_hh X S L) _
  refine ax_pF rfl (fun c1 => ?_) (fun c1 => ?_)
  · refine ax_s (pc' := 22) (st' := [.int (-1000001)]) rfl rfl rfl rfl ?_
    refine ax_r rfl rfl rfl ?_
    exact k1 c1
  · refine ax_s (pc' := 12) (st' := [.int 2]) rfl rfl rfl rfl ?_
    refine ax_s (pc' := 13) (st' := [.int 0, .int 2]) rfl rfl rfl rfl ?_
    refine ax_s (pc' := 14) (st' := [.int 5, .int 0, .int 2]) rfl rfl rfl rfl ?_
    refine ax_call (vs := [.int 2, .int 0, .int 5]) (rr := []) rfl rfl rfl ?_
    refine ct_isOutside ?_
    show am_ex (d + 4) 133 17 [some (.ref 5), some (.int (nI j)), some (.int 2)] [.int 0] (am_hh X S L) _
    refine ax_if_eq rfl (fun c2 => ?_) (fun c2 => False.elim (by revert c2; decide))
    refine ax_s (pc' := 24) (st' := [.ref 5]) rfl rfl rfl rfl ?_
    refine ax_get rfl (hh_5 _ _ _) rfl rfl rfl ?_
    show am_ex (d + 4) 133 27 [some (.ref 5), some (.int (nI j)), some (.int 2)] [.ref 20] (am_hh X S L) _
    refine ax_get rfl (hh_20 _ _ _) rfl rfl rfl ?_
    show am_ex (d + 4) 133 30 [some (.ref 5), some (.int (nI j)), some (.int 2)] [.ref 22] (am_hh X S L) _
    refine ax_s (pc' := 31) (st' := [.int (nI j), .ref 22]) rfl rfl rfl rfl ?_
    refine ax_ald (j := j) (v := 1) rfl (hh_22 _ _ _) rfl rfl (x1 c1) (by decide) hk ?_
    refine ax_s (pc' := 33) (st' := [.int 2, .int 1]) rfl rfl rfl rfl ?_
    refine ax_call (vs := [.int 1, .int 2]) (rr := []) rfl rfl rfl ?_
    refine kt_isSuch_1_2 ?_
    show am_ex (d + 4) 133 36 [some (.ref 5), some (.int (nI j)), some (.int 2)] [.int 0] (am_hh X S L) _
    refine ax_if_ne rfl (fun c3 => False.elim (by revert c3; decide)) (fun c3 => ?_)
    refine ax_s (pc' := 40) (st' := [.ref 5]) rfl rfl rfl rfl ?_
    refine ax_s (pc' := 41) (st' := [.int 3, .ref 5]) rfl rfl rfl rfl ?_
    refine ax_call (vs := [.ref 5, .int 3]) (rr := []) rfl rfl rfl ?_
    refine ax_in (ls := [some (.ref 5), some (.int 3)]) rfl ?_
    refine ax_s (pc' := 1) (st' := [.ref 5]) rfl rfl rfl rfl ?_
    refine ax_s (pc' := 2) (st' := [.int 3, .ref 5]) rfl rfl rfl rfl ?_
    refine ax_put rfl (hh_5 _ _ _) rfl rfl (show 12 + 1 ≤ _ from Nat.le_of_ble_eq_true rfl) rfl (am_hh_set _ _ _ 5 12 _ rfl) ?_
    refine ax_s (pc' := 8) (st' := [.int (-1000010)]) rfl rfl rfl rfl ?_
    refine ax_s (pc' := 9) (st' := [.int 3, .int (-1000010)]) rfl rfl rfl rfl ?_
    refine ax_s (pc' := 10) (st' := [.int (-1000013)]) rfl rfl rfl rfl ?_
    refine ax_r rfl rfl rfl ?_
    show am_ex (d + 4) 133 44 [some (.ref 5), some (.int (nI j)), some (.int 2)] [.int (-1000013)] (am_hh X (am_u S 5 12 3) L) _
    refine ax_r rfl rfl rfl ?_
    exact k2 c1
theorem wm_as_1_2 {d : Nat} {X : Nat × (Nat → Int32)} {S : Nat → Nat → Int32} {L : Nat → Int64} {j : Nat} {Q : Option Value → am_H → Prop} (hk : S 290 j = 1) (hj : j < 6)  (x1 : ¬ (nI j) < 0 ∧ ¬ (S 285 7) - 1 < (nI j) → j < 6) (k1 : ¬ (¬ (nI j) < 0 ∧ ¬ (S 285 7) - 1 < (nI j)) → Q (some (.int (-1000001))) (am_hh X S L)) (k2 : ¬ (nI j) < 0 ∧ ¬ (S 285 7) - 1 < (nI j) → Q (some (.int (-1000013))) (am_hh X (am_u S 285 3 3) L)) : am_mt (d + 4) 222 [.ref 285, .int (nI j), .int 2] (am_hh X S L) Q := by
  refine ax_in (ls := [some (.ref 285), some (.int (nI j)), some (.int 2)]) rfl ?_
  refine ax_s (pc' := 1) (st' := [.ref 285]) rfl rfl rfl rfl ?_
  refine ax_s (pc' := 2) (st' := [.int (nI j), .ref 285]) rfl rfl rfl rfl ?_
  refine ax_call (vs := [.ref 285, .int (nI j)]) (rr := []) rfl rfl rfl ?_
  refine mt_isParty  ?_
  show am_ex (d + 4) 222 5 [some (.ref 285), some (.int (nI j)), some (.int 2)] [.int (bI (decide (¬ (nI j) < 0 ∧ ¬ (S 285 7) - 1 < (nI j))))] (am_hh X S L) _
  refine ax_pF rfl (fun c1 => ?_) (fun c1 => ?_)
  · refine ax_s (pc' := 19) (st' := [.int (-1000001)]) rfl rfl rfl rfl ?_
    refine ax_r rfl rfl rfl ?_
    exact k1 c1
  · refine ax_s (pc' := 9) (st' := [.int 2]) rfl rfl rfl rfl ?_
    refine ax_s (pc' := 10) (st' := [.int 0, .int 2]) rfl rfl rfl rfl ?_
    refine ax_s (pc' := 11) (st' := [.int 5, .int 0, .int 2]) rfl rfl rfl rfl ?_
    refine ax_call (vs := [.int 2, .int 0, .int 5]) (rr := []) rfl rfl rfl ?_
    refine mt_in ?_
    show am_ex (d + 4) 222 14 [some (.ref 285), some (.int (nI j)), some (.int 2)] [.int 1] (am_hh X S L) _
    refine ax_if_ne rfl (fun c2 => ?_) (fun c2 => False.elim (by revert c2; decide))
    refine ax_s (pc' := 21) (st' := [.ref 285]) rfl rfl rfl rfl ?_
    refine ax_s (pc' := 22) (st' := [.int (nI j), .ref 285]) rfl rfl rfl rfl ?_
    refine ax_s (pc' := 23) (st' := [.int 2, .int (nI j), .ref 285]) rfl rfl rfl rfl ?_
    refine ax_call (vs := [.ref 285, .int (nI j), .int 2]) (rr := []) rfl rfl rfl ?_
    refine ax_in (ls := [some (.ref 285), some (.int (nI j)), some (.int 2), none]) rfl ?_
    refine ax_s (pc' := 1) (st' := [.ref 285]) rfl rfl rfl rfl ?_
    refine ax_get rfl (hh_285 _ _ _) rfl rfl rfl ?_
    show am_ex (d + 3) 223 4 [some (.ref 285), some (.int (nI j)), some (.int 2), none] [.ref 290] (am_hh X S L) _
    refine ax_s (pc' := 5) (st' := [.int (nI j), .ref 290]) rfl rfl rfl rfl ?_
    refine ax_ald (j := j) (v := 1) rfl (hh_290 _ _ _) rfl rfl (x1 c1) (by decide) hk ?_
    refine ax_s (pc' := 7) (ls' := [some (.ref 285), some (.int (nI j)), some (.int 2), some (.int 1)]) (st' := []) rfl rfl rfl rfl ?_
    refine ax_s (pc' := 8) (st' := [.int 2]) rfl rfl rfl rfl ?_
    refine ax_if_eq rfl (fun c3 => False.elim (by revert c3; decide)) (fun c3 => ?_)
    refine ax_s (pc' := 12) (st' := [.int 2]) rfl rfl rfl rfl ?_
    refine ax_s (pc' := 13) (st' := [.int 1, .int 2]) rfl rfl rfl rfl ?_
    refine ax_cmp_eq rfl (fun c4 => False.elim (by revert c4; decide)) (fun c4 => ?_)
    refine ax_s (pc' := 17) (st' := [.int 2]) rfl rfl rfl rfl ?_
    refine ax_s (pc' := 18) (st' := [.int 1, .int 2]) rfl rfl rfl rfl ?_
    refine ax_cmp_ne rfl (fun c5 => ?_) (fun c5 => False.elim (by revert c5; decide))
    refine ax_s (pc' := 27) (st' := [.int 2]) rfl rfl rfl rfl ?_
    refine ax_s (pc' := 28) (st' := [.int 4, .int 2]) rfl rfl rfl rfl ?_
    refine ax_cmp_ne rfl (fun c6 => ?_) (fun c6 => False.elim (by revert c6; decide))
    refine ax_s (pc' := 41) (st' := [.int 0]) rfl rfl rfl rfl ?_
    refine ax_rb (b := false) rfl rfl ?_
    show am_ex (d + 4) 222 26 [some (.ref 285), some (.int (nI j)), some (.int 2)] [.int 0] (am_hh X S L) _
    refine ax_if_ne rfl (fun c7 => False.elim (by revert c7; decide)) (fun c7 => ?_)
    refine ax_s (pc' := 30) (st' := [.ref 285]) rfl rfl rfl rfl ?_
    refine ax_s (pc' := 31) (st' := [.int 3, .ref 285]) rfl rfl rfl rfl ?_
    refine ax_call (vs := [.ref 285, .int 3]) (rr := []) rfl rfl rfl ?_
    refine ax_in (ls := [some (.ref 285), some (.int 3)]) rfl ?_
    refine ax_s (pc' := 1) (st' := [.ref 285]) rfl rfl rfl rfl ?_
    refine ax_s (pc' := 2) (st' := [.int 3, .ref 285]) rfl rfl rfl rfl ?_
    refine ax_put rfl (hh_285 _ _ _) rfl rfl (show 3 + 1 ≤ _ from Nat.le_of_ble_eq_true rfl) rfl (am_hh_set _ _ _ 285 3 _ rfl) ?_
    refine ax_s (pc' := 7) (st' := [.int (-1000010)]) rfl rfl rfl rfl ?_
    refine ax_s (pc' := 8) (st' := [.int 3, .int (-1000010)]) rfl rfl rfl rfl ?_
    refine ax_s (pc' := 9) (st' := [.int (-1000013)]) rfl rfl rfl rfl ?_
    refine ax_r rfl rfl rfl ?_
    show am_ex (d + 4) 222 34 [some (.ref 285), some (.int (nI j)), some (.int 2)] [.int (-1000013)] (am_hh X (am_u S 285 3 3) L) _
    refine ax_r rfl rfl rfl ?_
    exact k2 c1
theorem wk_as_1_3 {d : Nat} {X : Nat × (Nat → Int32)} {S : Nat → Nat → Int32} {L : Nat → Int64} {j : Nat} {Q : Option Value → am_H → Prop} (hk : S 22 j = 1) (hj : j < 6)  (x1 : ¬ (nI j) < 0 ∧ ¬ (S 20 4) ≤ (nI j) → j < 6) (k1 : ¬ (¬ (nI j) < 0 ∧ ¬ (S 20 4) ≤ (nI j)) → Q (some (.int (-1000001))) (am_hh X S L)) (k2 : ¬ (nI j) < 0 ∧ ¬ (S 20 4) ≤ (nI j) → Q (some (.int (-1000013))) (am_hh X (am_u S 5 12 3) L)) : am_mt (d + 4) 133 [.ref 5, .int (nI j), .int 3] (am_hh X S L) Q := by
  refine ax_in (ls := [some (.ref 5), some (.int (nI j)), some (.int 3)]) rfl ?_
  refine ax_s (pc' := 1) (st' := [.ref 5]) rfl rfl rfl rfl ?_
  refine ax_get rfl (hh_5 _ _ _) rfl rfl rfl ?_
  show am_ex (d + 4) 133 4 [some (.ref 5), some (.int (nI j)), some (.int 3)] [.ref 20] (am_hh X S L) _
  refine ax_s (pc' := 5) (st' := [.int (nI j), .ref 20]) rfl rfl rfl rfl ?_
  refine ax_call (vs := [.ref 20, .int (nI j)]) (rr := []) rfl rfl rfl ?_
  refine kw (am_hh_sub isW20 X S L) (am_hh_sub isW20 X S L).symm (fun _ => ct_hasParty (am_isW_k isW20 X S L)) ?_
  show am_ex (d + 4) 133 8 [some (.ref 5), some (.int (nI j)), some (.int 3)] [.int (bI (decide (¬ (nI j) < 0 ∧ ¬ (S 20 4) ≤ (nI j))))] (am_hh X S L) _
  refine ax_pF rfl (fun c1 => ?_) (fun c1 => ?_)
  · refine ax_s (pc' := 22) (st' := [.int (-1000001)]) rfl rfl rfl rfl ?_
    refine ax_r rfl rfl rfl ?_
    exact k1 c1
  · refine ax_s (pc' := 12) (st' := [.int 3]) rfl rfl rfl rfl ?_
    refine ax_s (pc' := 13) (st' := [.int 0, .int 3]) rfl rfl rfl rfl ?_
    refine ax_s (pc' := 14) (st' := [.int 5, .int 0, .int 3]) rfl rfl rfl rfl ?_
    refine ax_call (vs := [.int 3, .int 0, .int 5]) (rr := []) rfl rfl rfl ?_
    refine ct_isOutside ?_
    show am_ex (d + 4) 133 17 [some (.ref 5), some (.int (nI j)), some (.int 3)] [.int 0] (am_hh X S L) _
    refine ax_if_eq rfl (fun c2 => ?_) (fun c2 => False.elim (by revert c2; decide))
    refine ax_s (pc' := 24) (st' := [.ref 5]) rfl rfl rfl rfl ?_
    refine ax_get rfl (hh_5 _ _ _) rfl rfl rfl ?_
    show am_ex (d + 4) 133 27 [some (.ref 5), some (.int (nI j)), some (.int 3)] [.ref 20] (am_hh X S L) _
    refine ax_get rfl (hh_20 _ _ _) rfl rfl rfl ?_
    show am_ex (d + 4) 133 30 [some (.ref 5), some (.int (nI j)), some (.int 3)] [.ref 22] (am_hh X S L) _
    refine ax_s (pc' := 31) (st' := [.int (nI j), .ref 22]) rfl rfl rfl rfl ?_
    refine ax_ald (j := j) (v := 1) rfl (hh_22 _ _ _) rfl rfl (x1 c1) (by decide) hk ?_
    refine ax_s (pc' := 33) (st' := [.int 3, .int 1]) rfl rfl rfl rfl ?_
    refine ax_call (vs := [.int 1, .int 3]) (rr := []) rfl rfl rfl ?_
    refine kt_isSuch_1_3 ?_
    show am_ex (d + 4) 133 36 [some (.ref 5), some (.int (nI j)), some (.int 3)] [.int 0] (am_hh X S L) _
    refine ax_if_ne rfl (fun c3 => False.elim (by revert c3; decide)) (fun c3 => ?_)
    refine ax_s (pc' := 40) (st' := [.ref 5]) rfl rfl rfl rfl ?_
    refine ax_s (pc' := 41) (st' := [.int 3, .ref 5]) rfl rfl rfl rfl ?_
    refine ax_call (vs := [.ref 5, .int 3]) (rr := []) rfl rfl rfl ?_
    refine ax_in (ls := [some (.ref 5), some (.int 3)]) rfl ?_
    refine ax_s (pc' := 1) (st' := [.ref 5]) rfl rfl rfl rfl ?_
    refine ax_s (pc' := 2) (st' := [.int 3, .ref 5]) rfl rfl rfl rfl ?_
    refine ax_put rfl (hh_5 _ _ _) rfl rfl (show 12 + 1 ≤ _ from Nat.le_of_ble_eq_true rfl) rfl (am_hh_set _ _ _ 5 12 _ rfl) ?_
    refine ax_s (pc' := 8) (st' := [.int (-1000010)]) rfl rfl rfl rfl ?_
    refine ax_s (pc' := 9) (st' := [.int 3, .int (-1000010)]) rfl rfl rfl rfl ?_
    refine ax_s (pc' := 10) (st' := [.int (-1000013)]) rfl rfl rfl rfl ?_
    refine ax_r rfl rfl rfl ?_
    show am_ex (d + 4) 133 44 [some (.ref 5), some (.int (nI j)), some (.int 3)] [.int (-1000013)] (am_hh X (am_u S 5 12 3) L) _
    refine ax_r rfl rfl rfl ?_
    exact k2 c1
theorem wm_as_1_3 {d : Nat} {X : Nat × (Nat → Int32)} {S : Nat → Nat → Int32} {L : Nat → Int64} {j : Nat} {Q : Option Value → am_H → Prop} (hk : S 290 j = 1) (hj : j < 6)  (x1 : ¬ (nI j) < 0 ∧ ¬ (S 285 7) - 1 < (nI j) → j < 6) (k1 : ¬ (¬ (nI j) < 0 ∧ ¬ (S 285 7) - 1 < (nI j)) → Q (some (.int (-1000001))) (am_hh X S L)) (k2 : ¬ (nI j) < 0 ∧ ¬ (S 285 7) - 1 < (nI j) → Q (some (.int (-1000013))) (am_hh X (am_u S 285 3 3) L)) : am_mt (d + 4) 222 [.ref 285, .int (nI j), .int 3] (am_hh X S L) Q := by
  refine ax_in (ls := [some (.ref 285), some (.int (nI j)), some (.int 3)]) rfl ?_
  refine ax_s (pc' := 1) (st' := [.ref 285]) rfl rfl rfl rfl ?_
  refine ax_s (pc' := 2) (st' := [.int (nI j), .ref 285]) rfl rfl rfl rfl ?_
  refine ax_call (vs := [.ref 285, .int (nI j)]) (rr := []) rfl rfl rfl ?_
  refine mt_isParty  ?_
  show am_ex (d + 4) 222 5 [some (.ref 285), some (.int (nI j)), some (.int 3)] [.int (bI (decide (¬ (nI j) < 0 ∧ ¬ (S 285 7) - 1 < (nI j))))] (am_hh X S L) _
  refine ax_pF rfl (fun c1 => ?_) (fun c1 => ?_)
  · refine ax_s (pc' := 19) (st' := [.int (-1000001)]) rfl rfl rfl rfl ?_
    refine ax_r rfl rfl rfl ?_
    exact k1 c1
  · refine ax_s (pc' := 9) (st' := [.int 3]) rfl rfl rfl rfl ?_
    refine ax_s (pc' := 10) (st' := [.int 0, .int 3]) rfl rfl rfl rfl ?_
    refine ax_s (pc' := 11) (st' := [.int 5, .int 0, .int 3]) rfl rfl rfl rfl ?_
    refine ax_call (vs := [.int 3, .int 0, .int 5]) (rr := []) rfl rfl rfl ?_
    refine mt_in ?_
    show am_ex (d + 4) 222 14 [some (.ref 285), some (.int (nI j)), some (.int 3)] [.int 1] (am_hh X S L) _
    refine ax_if_ne rfl (fun c2 => ?_) (fun c2 => False.elim (by revert c2; decide))
    refine ax_s (pc' := 21) (st' := [.ref 285]) rfl rfl rfl rfl ?_
    refine ax_s (pc' := 22) (st' := [.int (nI j), .ref 285]) rfl rfl rfl rfl ?_
    refine ax_s (pc' := 23) (st' := [.int 3, .int (nI j), .ref 285]) rfl rfl rfl rfl ?_
    refine ax_call (vs := [.ref 285, .int (nI j), .int 3]) (rr := []) rfl rfl rfl ?_
    refine ax_in (ls := [some (.ref 285), some (.int (nI j)), some (.int 3), none]) rfl ?_
    refine ax_s (pc' := 1) (st' := [.ref 285]) rfl rfl rfl rfl ?_
    refine ax_get rfl (hh_285 _ _ _) rfl rfl rfl ?_
    show am_ex (d + 3) 223 4 [some (.ref 285), some (.int (nI j)), some (.int 3), none] [.ref 290] (am_hh X S L) _
    refine ax_s (pc' := 5) (st' := [.int (nI j), .ref 290]) rfl rfl rfl rfl ?_
    refine ax_ald (j := j) (v := 1) rfl (hh_290 _ _ _) rfl rfl (x1 c1) (by decide) hk ?_
    refine ax_s (pc' := 7) (ls' := [some (.ref 285), some (.int (nI j)), some (.int 3), some (.int 1)]) (st' := []) rfl rfl rfl rfl ?_
    refine ax_s (pc' := 8) (st' := [.int 3]) rfl rfl rfl rfl ?_
    refine ax_if_eq rfl (fun c3 => False.elim (by revert c3; decide)) (fun c3 => ?_)
    refine ax_s (pc' := 12) (st' := [.int 3]) rfl rfl rfl rfl ?_
    refine ax_s (pc' := 13) (st' := [.int 1, .int 3]) rfl rfl rfl rfl ?_
    refine ax_cmp_eq rfl (fun c4 => False.elim (by revert c4; decide)) (fun c4 => ?_)
    refine ax_s (pc' := 17) (st' := [.int 3]) rfl rfl rfl rfl ?_
    refine ax_s (pc' := 18) (st' := [.int 1, .int 3]) rfl rfl rfl rfl ?_
    refine ax_cmp_ne rfl (fun c5 => ?_) (fun c5 => False.elim (by revert c5; decide))
    refine ax_s (pc' := 27) (st' := [.int 3]) rfl rfl rfl rfl ?_
    refine ax_s (pc' := 28) (st' := [.int 4, .int 3]) rfl rfl rfl rfl ?_
    refine ax_cmp_ne rfl (fun c6 => ?_) (fun c6 => False.elim (by revert c6; decide))
    refine ax_s (pc' := 41) (st' := [.int 0]) rfl rfl rfl rfl ?_
    refine ax_rb (b := false) rfl rfl ?_
    show am_ex (d + 4) 222 26 [some (.ref 285), some (.int (nI j)), some (.int 3)] [.int 0] (am_hh X S L) _
    refine ax_if_ne rfl (fun c7 => False.elim (by revert c7; decide)) (fun c7 => ?_)
    refine ax_s (pc' := 30) (st' := [.ref 285]) rfl rfl rfl rfl ?_
    refine ax_s (pc' := 31) (st' := [.int 3, .ref 285]) rfl rfl rfl rfl ?_
    refine ax_call (vs := [.ref 285, .int 3]) (rr := []) rfl rfl rfl ?_
    refine ax_in (ls := [some (.ref 285), some (.int 3)]) rfl ?_
    refine ax_s (pc' := 1) (st' := [.ref 285]) rfl rfl rfl rfl ?_
    refine ax_s (pc' := 2) (st' := [.int 3, .ref 285]) rfl rfl rfl rfl ?_
    refine ax_put rfl (hh_285 _ _ _) rfl rfl (show 3 + 1 ≤ _ from Nat.le_of_ble_eq_true rfl) rfl (am_hh_set _ _ _ 285 3 _ rfl) ?_
    refine ax_s (pc' := 7) (st' := [.int (-1000010)]) rfl rfl rfl rfl ?_
    refine ax_s (pc' := 8) (st' := [.int 3, .int (-1000010)]) rfl rfl rfl rfl ?_
    refine ax_s (pc' := 9) (st' := [.int (-1000013)]) rfl rfl rfl rfl ?_
    refine ax_r rfl rfl rfl ?_
    show am_ex (d + 4) 222 34 [some (.ref 285), some (.int (nI j)), some (.int 3)] [.int (-1000013)] (am_hh X (am_u S 285 3 3) L) _
    refine ax_r rfl rfl rfl ?_
    exact k2 c1
theorem wk_as_1_4 {d : Nat} {X : Nat × (Nat → Int32)} {S : Nat → Nat → Int32} {L : Nat → Int64} {j : Nat} {Q : Option Value → am_H → Prop} (hk : S 22 j = 1) (hj : j < 6)  (x1 : ¬ (nI j) < 0 ∧ ¬ (S 20 4) ≤ (nI j) → j < 6) (k1 : ¬ (¬ (nI j) < 0 ∧ ¬ (S 20 4) ≤ (nI j)) → Q (some (.int (-1000001))) (am_hh X S L)) (k2 : ¬ (nI j) < 0 ∧ ¬ (S 20 4) ≤ (nI j) → Q (some (.int (-1000013))) (am_hh X (am_u S 5 12 3) L)) : am_mt (d + 4) 133 [.ref 5, .int (nI j), .int 4] (am_hh X S L) Q := by
  refine ax_in (ls := [some (.ref 5), some (.int (nI j)), some (.int 4)]) rfl ?_
  refine ax_s (pc' := 1) (st' := [.ref 5]) rfl rfl rfl rfl ?_
  refine ax_get rfl (hh_5 _ _ _) rfl rfl rfl ?_
  show am_ex (d + 4) 133 4 [some (.ref 5), some (.int (nI j)), some (.int 4)] [.ref 20] (am_hh X S L) _
  refine ax_s (pc' := 5) (st' := [.int (nI j), .ref 20]) rfl rfl rfl rfl ?_
  refine ax_call (vs := [.ref 20, .int (nI j)]) (rr := []) rfl rfl rfl ?_
  refine kw (am_hh_sub isW20 X S L) (am_hh_sub isW20 X S L).symm (fun _ => ct_hasParty (am_isW_k isW20 X S L)) ?_
  show am_ex (d + 4) 133 8 [some (.ref 5), some (.int (nI j)), some (.int 4)] [.int (bI (decide (¬ (nI j) < 0 ∧ ¬ (S 20 4) ≤ (nI j))))] (am_hh X S L) _
  refine ax_pF rfl (fun c1 => ?_) (fun c1 => ?_)
  · refine ax_s (pc' := 22) (st' := [.int (-1000001)]) rfl rfl rfl rfl ?_
    refine ax_r rfl rfl rfl ?_
    exact k1 c1
  · refine ax_s (pc' := 12) (st' := [.int 4]) rfl rfl rfl rfl ?_
    refine ax_s (pc' := 13) (st' := [.int 0, .int 4]) rfl rfl rfl rfl ?_
    refine ax_s (pc' := 14) (st' := [.int 5, .int 0, .int 4]) rfl rfl rfl rfl ?_
    refine ax_call (vs := [.int 4, .int 0, .int 5]) (rr := []) rfl rfl rfl ?_
    refine ct_isOutside ?_
    show am_ex (d + 4) 133 17 [some (.ref 5), some (.int (nI j)), some (.int 4)] [.int 0] (am_hh X S L) _
    refine ax_if_eq rfl (fun c2 => ?_) (fun c2 => False.elim (by revert c2; decide))
    refine ax_s (pc' := 24) (st' := [.ref 5]) rfl rfl rfl rfl ?_
    refine ax_get rfl (hh_5 _ _ _) rfl rfl rfl ?_
    show am_ex (d + 4) 133 27 [some (.ref 5), some (.int (nI j)), some (.int 4)] [.ref 20] (am_hh X S L) _
    refine ax_get rfl (hh_20 _ _ _) rfl rfl rfl ?_
    show am_ex (d + 4) 133 30 [some (.ref 5), some (.int (nI j)), some (.int 4)] [.ref 22] (am_hh X S L) _
    refine ax_s (pc' := 31) (st' := [.int (nI j), .ref 22]) rfl rfl rfl rfl ?_
    refine ax_ald (j := j) (v := 1) rfl (hh_22 _ _ _) rfl rfl (x1 c1) (by decide) hk ?_
    refine ax_s (pc' := 33) (st' := [.int 4, .int 1]) rfl rfl rfl rfl ?_
    refine ax_call (vs := [.int 1, .int 4]) (rr := []) rfl rfl rfl ?_
    refine kt_isSuch_1_4 ?_
    show am_ex (d + 4) 133 36 [some (.ref 5), some (.int (nI j)), some (.int 4)] [.int 0] (am_hh X S L) _
    refine ax_if_ne rfl (fun c3 => False.elim (by revert c3; decide)) (fun c3 => ?_)
    refine ax_s (pc' := 40) (st' := [.ref 5]) rfl rfl rfl rfl ?_
    refine ax_s (pc' := 41) (st' := [.int 3, .ref 5]) rfl rfl rfl rfl ?_
    refine ax_call (vs := [.ref 5, .int 3]) (rr := []) rfl rfl rfl ?_
    refine ax_in (ls := [some (.ref 5), some (.int 3)]) rfl ?_
    refine ax_s (pc' := 1) (st' := [.ref 5]) rfl rfl rfl rfl ?_
    refine ax_s (pc' := 2) (st' := [.int 3, .ref 5]) rfl rfl rfl rfl ?_
    refine ax_put rfl (hh_5 _ _ _) rfl rfl (show 12 + 1 ≤ _ from Nat.le_of_ble_eq_true rfl) rfl (am_hh_set _ _ _ 5 12 _ rfl) ?_
    refine ax_s (pc' := 8) (st' := [.int (-1000010)]) rfl rfl rfl rfl ?_
    refine ax_s (pc' := 9) (st' := [.int 3, .int (-1000010)]) rfl rfl rfl rfl ?_
    refine ax_s (pc' := 10) (st' := [.int (-1000013)]) rfl rfl rfl rfl ?_
    refine ax_r rfl rfl rfl ?_
    show am_ex (d + 4) 133 44 [some (.ref 5), some (.int (nI j)), some (.int 4)] [.int (-1000013)] (am_hh X (am_u S 5 12 3) L) _
    refine ax_r rfl rfl rfl ?_
    exact k2 c1
theorem wm_as_1_4 {d : Nat} {X : Nat × (Nat → Int32)} {S : Nat → Nat → Int32} {L : Nat → Int64} {j : Nat} {Q : Option Value → am_H → Prop} (hk : S 290 j = 1) (hj : j < 6)  (x1 : ¬ (nI j) < 0 ∧ ¬ (S 285 7) - 1 < (nI j) → j < 6) (k1 : ¬ (¬ (nI j) < 0 ∧ ¬ (S 285 7) - 1 < (nI j)) → Q (some (.int (-1000001))) (am_hh X S L)) (k2 : ¬ (nI j) < 0 ∧ ¬ (S 285 7) - 1 < (nI j) → Q (some (.int (-1000013))) (am_hh X (am_u S 285 3 3) L)) : am_mt (d + 4) 222 [.ref 285, .int (nI j), .int 4] (am_hh X S L) Q := by
  refine ax_in (ls := [some (.ref 285), some (.int (nI j)), some (.int 4)]) rfl ?_
  refine ax_s (pc' := 1) (st' := [.ref 285]) rfl rfl rfl rfl ?_
  refine ax_s (pc' := 2) (st' := [.int (nI j), .ref 285]) rfl rfl rfl rfl ?_
  refine ax_call (vs := [.ref 285, .int (nI j)]) (rr := []) rfl rfl rfl ?_
  refine mt_isParty  ?_
  show am_ex (d + 4) 222 5 [some (.ref 285), some (.int (nI j)), some (.int 4)] [.int (bI (decide (¬ (nI j) < 0 ∧ ¬ (S 285 7) - 1 < (nI j))))] (am_hh X S L) _
  refine ax_pF rfl (fun c1 => ?_) (fun c1 => ?_)
  · refine ax_s (pc' := 19) (st' := [.int (-1000001)]) rfl rfl rfl rfl ?_
    refine ax_r rfl rfl rfl ?_
    exact k1 c1
  · refine ax_s (pc' := 9) (st' := [.int 4]) rfl rfl rfl rfl ?_
    refine ax_s (pc' := 10) (st' := [.int 0, .int 4]) rfl rfl rfl rfl ?_
    refine ax_s (pc' := 11) (st' := [.int 5, .int 0, .int 4]) rfl rfl rfl rfl ?_
    refine ax_call (vs := [.int 4, .int 0, .int 5]) (rr := []) rfl rfl rfl ?_
    refine mt_in ?_
    show am_ex (d + 4) 222 14 [some (.ref 285), some (.int (nI j)), some (.int 4)] [.int 1] (am_hh X S L) _
    refine ax_if_ne rfl (fun c2 => ?_) (fun c2 => False.elim (by revert c2; decide))
    refine ax_s (pc' := 21) (st' := [.ref 285]) rfl rfl rfl rfl ?_
    refine ax_s (pc' := 22) (st' := [.int (nI j), .ref 285]) rfl rfl rfl rfl ?_
    refine ax_s (pc' := 23) (st' := [.int 4, .int (nI j), .ref 285]) rfl rfl rfl rfl ?_
    refine ax_call (vs := [.ref 285, .int (nI j), .int 4]) (rr := []) rfl rfl rfl ?_
    refine ax_in (ls := [some (.ref 285), some (.int (nI j)), some (.int 4), none]) rfl ?_
    refine ax_s (pc' := 1) (st' := [.ref 285]) rfl rfl rfl rfl ?_
    refine ax_get rfl (hh_285 _ _ _) rfl rfl rfl ?_
    show am_ex (d + 3) 223 4 [some (.ref 285), some (.int (nI j)), some (.int 4), none] [.ref 290] (am_hh X S L) _
    refine ax_s (pc' := 5) (st' := [.int (nI j), .ref 290]) rfl rfl rfl rfl ?_
    refine ax_ald (j := j) (v := 1) rfl (hh_290 _ _ _) rfl rfl (x1 c1) (by decide) hk ?_
    refine ax_s (pc' := 7) (ls' := [some (.ref 285), some (.int (nI j)), some (.int 4), some (.int 1)]) (st' := []) rfl rfl rfl rfl ?_
    refine ax_s (pc' := 8) (st' := [.int 4]) rfl rfl rfl rfl ?_
    refine ax_if_eq rfl (fun c3 => False.elim (by revert c3; decide)) (fun c3 => ?_)
    refine ax_s (pc' := 12) (st' := [.int 4]) rfl rfl rfl rfl ?_
    refine ax_s (pc' := 13) (st' := [.int 1, .int 4]) rfl rfl rfl rfl ?_
    refine ax_cmp_eq rfl (fun c4 => False.elim (by revert c4; decide)) (fun c4 => ?_)
    refine ax_s (pc' := 17) (st' := [.int 4]) rfl rfl rfl rfl ?_
    refine ax_s (pc' := 18) (st' := [.int 1, .int 4]) rfl rfl rfl rfl ?_
    refine ax_cmp_ne rfl (fun c5 => ?_) (fun c5 => False.elim (by revert c5; decide))
    refine ax_s (pc' := 27) (st' := [.int 4]) rfl rfl rfl rfl ?_
    refine ax_s (pc' := 28) (st' := [.int 4, .int 4]) rfl rfl rfl rfl ?_
    refine ax_cmp_ne rfl (fun c6 => False.elim (by revert c6; decide)) (fun c6 => ?_)
    refine ax_s (pc' := 32) (st' := [.int 1]) rfl rfl rfl rfl ?_
    refine ax_s (pc' := 33) (st' := [.int 5, .int 1]) rfl rfl rfl rfl ?_
    refine ax_cmp_ne rfl (fun c7 => ?_) (fun c7 => False.elim (by revert c7; decide))
    refine ax_s (pc' := 41) (st' := [.int 0]) rfl rfl rfl rfl ?_
    refine ax_rb (b := false) rfl rfl ?_
    show am_ex (d + 4) 222 26 [some (.ref 285), some (.int (nI j)), some (.int 4)] [.int 0] (am_hh X S L) _
    refine ax_if_ne rfl (fun c8 => False.elim (by revert c8; decide)) (fun c8 => ?_)
    refine ax_s (pc' := 30) (st' := [.ref 285]) rfl rfl rfl rfl ?_
    refine ax_s (pc' := 31) (st' := [.int 3, .ref 285]) rfl rfl rfl rfl ?_
    refine ax_call (vs := [.ref 285, .int 3]) (rr := []) rfl rfl rfl ?_
    refine ax_in (ls := [some (.ref 285), some (.int 3)]) rfl ?_
    refine ax_s (pc' := 1) (st' := [.ref 285]) rfl rfl rfl rfl ?_
    refine ax_s (pc' := 2) (st' := [.int 3, .ref 285]) rfl rfl rfl rfl ?_
    refine ax_put rfl (hh_285 _ _ _) rfl rfl (show 3 + 1 ≤ _ from Nat.le_of_ble_eq_true rfl) rfl (am_hh_set _ _ _ 285 3 _ rfl) ?_
    refine ax_s (pc' := 7) (st' := [.int (-1000010)]) rfl rfl rfl rfl ?_
    refine ax_s (pc' := 8) (st' := [.int 3, .int (-1000010)]) rfl rfl rfl rfl ?_
    refine ax_s (pc' := 9) (st' := [.int (-1000013)]) rfl rfl rfl rfl ?_
    refine ax_r rfl rfl rfl ?_
    show am_ex (d + 4) 222 34 [some (.ref 285), some (.int (nI j)), some (.int 4)] [.int (-1000013)] (am_hh X (am_u S 285 3 3) L) _
    refine ax_r rfl rfl rfl ?_
    exact k2 c1
theorem wk_as_1_5 {d : Nat} {X : Nat × (Nat → Int32)} {S : Nat → Nat → Int32} {L : Nat → Int64} {j : Nat} {Q : Option Value → am_H → Prop} (hk : S 22 j = 1) (hj : j < 6)  (x1 : ¬ (nI j) < 0 ∧ ¬ (S 20 4) ≤ (nI j) → j < 6) (k1 : ¬ (¬ (nI j) < 0 ∧ ¬ (S 20 4) ≤ (nI j)) → Q (some (.int (-1000001))) (am_hh X S L)) (k2 : ¬ (nI j) < 0 ∧ ¬ (S 20 4) ≤ (nI j) → Q (some (.int (-1000013))) (am_hh X (am_u S 5 12 3) L)) : am_mt (d + 4) 133 [.ref 5, .int (nI j), .int 5] (am_hh X S L) Q := by
  refine ax_in (ls := [some (.ref 5), some (.int (nI j)), some (.int 5)]) rfl ?_
  refine ax_s (pc' := 1) (st' := [.ref 5]) rfl rfl rfl rfl ?_
  refine ax_get rfl (hh_5 _ _ _) rfl rfl rfl ?_
  show am_ex (d + 4) 133 4 [some (.ref 5), some (.int (nI j)), some (.int 5)] [.ref 20] (am_hh X S L) _
  refine ax_s (pc' := 5) (st' := [.int (nI j), .ref 20]) rfl rfl rfl rfl ?_
  refine ax_call (vs := [.ref 20, .int (nI j)]) (rr := []) rfl rfl rfl ?_
  refine kw (am_hh_sub isW20 X S L) (am_hh_sub isW20 X S L).symm (fun _ => ct_hasParty (am_isW_k isW20 X S L)) ?_
  show am_ex (d + 4) 133 8 [some (.ref 5), some (.int (nI j)), some (.int 5)] [.int (bI (decide (¬ (nI j) < 0 ∧ ¬ (S 20 4) ≤ (nI j))))] (am_hh X S L) _
  refine ax_pF rfl (fun c1 => ?_) (fun c1 => ?_)
  · refine ax_s (pc' := 22) (st' := [.int (-1000001)]) rfl rfl rfl rfl ?_
    refine ax_r rfl rfl rfl ?_
    exact k1 c1
  · refine ax_s (pc' := 12) (st' := [.int 5]) rfl rfl rfl rfl ?_
    refine ax_s (pc' := 13) (st' := [.int 0, .int 5]) rfl rfl rfl rfl ?_
    refine ax_s (pc' := 14) (st' := [.int 5, .int 0, .int 5]) rfl rfl rfl rfl ?_
    refine ax_call (vs := [.int 5, .int 0, .int 5]) (rr := []) rfl rfl rfl ?_
    refine ct_isOutside ?_
    show am_ex (d + 4) 133 17 [some (.ref 5), some (.int (nI j)), some (.int 5)] [.int 0] (am_hh X S L) _
    refine ax_if_eq rfl (fun c2 => ?_) (fun c2 => False.elim (by revert c2; decide))
    refine ax_s (pc' := 24) (st' := [.ref 5]) rfl rfl rfl rfl ?_
    refine ax_get rfl (hh_5 _ _ _) rfl rfl rfl ?_
    show am_ex (d + 4) 133 27 [some (.ref 5), some (.int (nI j)), some (.int 5)] [.ref 20] (am_hh X S L) _
    refine ax_get rfl (hh_20 _ _ _) rfl rfl rfl ?_
    show am_ex (d + 4) 133 30 [some (.ref 5), some (.int (nI j)), some (.int 5)] [.ref 22] (am_hh X S L) _
    refine ax_s (pc' := 31) (st' := [.int (nI j), .ref 22]) rfl rfl rfl rfl ?_
    refine ax_ald (j := j) (v := 1) rfl (hh_22 _ _ _) rfl rfl (x1 c1) (by decide) hk ?_
    refine ax_s (pc' := 33) (st' := [.int 5, .int 1]) rfl rfl rfl rfl ?_
    refine ax_call (vs := [.int 1, .int 5]) (rr := []) rfl rfl rfl ?_
    refine kt_isSuch_1_5 ?_
    show am_ex (d + 4) 133 36 [some (.ref 5), some (.int (nI j)), some (.int 5)] [.int 0] (am_hh X S L) _
    refine ax_if_ne rfl (fun c3 => False.elim (by revert c3; decide)) (fun c3 => ?_)
    refine ax_s (pc' := 40) (st' := [.ref 5]) rfl rfl rfl rfl ?_
    refine ax_s (pc' := 41) (st' := [.int 3, .ref 5]) rfl rfl rfl rfl ?_
    refine ax_call (vs := [.ref 5, .int 3]) (rr := []) rfl rfl rfl ?_
    refine ax_in (ls := [some (.ref 5), some (.int 3)]) rfl ?_
    refine ax_s (pc' := 1) (st' := [.ref 5]) rfl rfl rfl rfl ?_
    refine ax_s (pc' := 2) (st' := [.int 3, .ref 5]) rfl rfl rfl rfl ?_
    refine ax_put rfl (hh_5 _ _ _) rfl rfl (show 12 + 1 ≤ _ from Nat.le_of_ble_eq_true rfl) rfl (am_hh_set _ _ _ 5 12 _ rfl) ?_
    refine ax_s (pc' := 8) (st' := [.int (-1000010)]) rfl rfl rfl rfl ?_
    refine ax_s (pc' := 9) (st' := [.int 3, .int (-1000010)]) rfl rfl rfl rfl ?_
    refine ax_s (pc' := 10) (st' := [.int (-1000013)]) rfl rfl rfl rfl ?_
    refine ax_r rfl rfl rfl ?_
    show am_ex (d + 4) 133 44 [some (.ref 5), some (.int (nI j)), some (.int 5)] [.int (-1000013)] (am_hh X (am_u S 5 12 3) L) _
    refine ax_r rfl rfl rfl ?_
    exact k2 c1
theorem wm_as_1_5 {d : Nat} {X : Nat × (Nat → Int32)} {S : Nat → Nat → Int32} {L : Nat → Int64} {j : Nat} {Q : Option Value → am_H → Prop} (hk : S 290 j = 1) (hj : j < 6)  (x1 : ¬ (nI j) < 0 ∧ ¬ (S 285 7) - 1 < (nI j) → j < 6) (k1 : ¬ (¬ (nI j) < 0 ∧ ¬ (S 285 7) - 1 < (nI j)) → Q (some (.int (-1000001))) (am_hh X S L)) (k2 : ¬ (nI j) < 0 ∧ ¬ (S 285 7) - 1 < (nI j) → Q (some (.int (-1000013))) (am_hh X (am_u S 285 3 3) L)) : am_mt (d + 4) 222 [.ref 285, .int (nI j), .int 5] (am_hh X S L) Q := by
  refine ax_in (ls := [some (.ref 285), some (.int (nI j)), some (.int 5)]) rfl ?_
  refine ax_s (pc' := 1) (st' := [.ref 285]) rfl rfl rfl rfl ?_
  refine ax_s (pc' := 2) (st' := [.int (nI j), .ref 285]) rfl rfl rfl rfl ?_
  refine ax_call (vs := [.ref 285, .int (nI j)]) (rr := []) rfl rfl rfl ?_
  refine mt_isParty  ?_
  show am_ex (d + 4) 222 5 [some (.ref 285), some (.int (nI j)), some (.int 5)] [.int (bI (decide (¬ (nI j) < 0 ∧ ¬ (S 285 7) - 1 < (nI j))))] (am_hh X S L) _
  refine ax_pF rfl (fun c1 => ?_) (fun c1 => ?_)
  · refine ax_s (pc' := 19) (st' := [.int (-1000001)]) rfl rfl rfl rfl ?_
    refine ax_r rfl rfl rfl ?_
    exact k1 c1
  · refine ax_s (pc' := 9) (st' := [.int 5]) rfl rfl rfl rfl ?_
    refine ax_s (pc' := 10) (st' := [.int 0, .int 5]) rfl rfl rfl rfl ?_
    refine ax_s (pc' := 11) (st' := [.int 5, .int 0, .int 5]) rfl rfl rfl rfl ?_
    refine ax_call (vs := [.int 5, .int 0, .int 5]) (rr := []) rfl rfl rfl ?_
    refine mt_in ?_
    show am_ex (d + 4) 222 14 [some (.ref 285), some (.int (nI j)), some (.int 5)] [.int 1] (am_hh X S L) _
    refine ax_if_ne rfl (fun c2 => ?_) (fun c2 => False.elim (by revert c2; decide))
    refine ax_s (pc' := 21) (st' := [.ref 285]) rfl rfl rfl rfl ?_
    refine ax_s (pc' := 22) (st' := [.int (nI j), .ref 285]) rfl rfl rfl rfl ?_
    refine ax_s (pc' := 23) (st' := [.int 5, .int (nI j), .ref 285]) rfl rfl rfl rfl ?_
    refine ax_call (vs := [.ref 285, .int (nI j), .int 5]) (rr := []) rfl rfl rfl ?_
    refine ax_in (ls := [some (.ref 285), some (.int (nI j)), some (.int 5), none]) rfl ?_
    refine ax_s (pc' := 1) (st' := [.ref 285]) rfl rfl rfl rfl ?_
    refine ax_get rfl (hh_285 _ _ _) rfl rfl rfl ?_
    show am_ex (d + 3) 223 4 [some (.ref 285), some (.int (nI j)), some (.int 5), none] [.ref 290] (am_hh X S L) _
    refine ax_s (pc' := 5) (st' := [.int (nI j), .ref 290]) rfl rfl rfl rfl ?_
    refine ax_ald (j := j) (v := 1) rfl (hh_290 _ _ _) rfl rfl (x1 c1) (by decide) hk ?_
    refine ax_s (pc' := 7) (ls' := [some (.ref 285), some (.int (nI j)), some (.int 5), some (.int 1)]) (st' := []) rfl rfl rfl rfl ?_
    refine ax_s (pc' := 8) (st' := [.int 5]) rfl rfl rfl rfl ?_
    refine ax_if_eq rfl (fun c3 => False.elim (by revert c3; decide)) (fun c3 => ?_)
    refine ax_s (pc' := 12) (st' := [.int 5]) rfl rfl rfl rfl ?_
    refine ax_s (pc' := 13) (st' := [.int 1, .int 5]) rfl rfl rfl rfl ?_
    refine ax_cmp_eq rfl (fun c4 => False.elim (by revert c4; decide)) (fun c4 => ?_)
    refine ax_s (pc' := 17) (st' := [.int 5]) rfl rfl rfl rfl ?_
    refine ax_s (pc' := 18) (st' := [.int 1, .int 5]) rfl rfl rfl rfl ?_
    refine ax_cmp_ne rfl (fun c5 => ?_) (fun c5 => False.elim (by revert c5; decide))
    refine ax_s (pc' := 27) (st' := [.int 5]) rfl rfl rfl rfl ?_
    refine ax_s (pc' := 28) (st' := [.int 4, .int 5]) rfl rfl rfl rfl ?_
    refine ax_cmp_ne rfl (fun c6 => ?_) (fun c6 => False.elim (by revert c6; decide))
    refine ax_s (pc' := 41) (st' := [.int 0]) rfl rfl rfl rfl ?_
    refine ax_rb (b := false) rfl rfl ?_
    show am_ex (d + 4) 222 26 [some (.ref 285), some (.int (nI j)), some (.int 5)] [.int 0] (am_hh X S L) _
    refine ax_if_ne rfl (fun c7 => False.elim (by revert c7; decide)) (fun c7 => ?_)
    refine ax_s (pc' := 30) (st' := [.ref 285]) rfl rfl rfl rfl ?_
    refine ax_s (pc' := 31) (st' := [.int 3, .ref 285]) rfl rfl rfl rfl ?_
    refine ax_call (vs := [.ref 285, .int 3]) (rr := []) rfl rfl rfl ?_
    refine ax_in (ls := [some (.ref 285), some (.int 3)]) rfl ?_
    refine ax_s (pc' := 1) (st' := [.ref 285]) rfl rfl rfl rfl ?_
    refine ax_s (pc' := 2) (st' := [.int 3, .ref 285]) rfl rfl rfl rfl ?_
    refine ax_put rfl (hh_285 _ _ _) rfl rfl (show 3 + 1 ≤ _ from Nat.le_of_ble_eq_true rfl) rfl (am_hh_set _ _ _ 285 3 _ rfl) ?_
    refine ax_s (pc' := 7) (st' := [.int (-1000010)]) rfl rfl rfl rfl ?_
    refine ax_s (pc' := 8) (st' := [.int 3, .int (-1000010)]) rfl rfl rfl rfl ?_
    refine ax_s (pc' := 9) (st' := [.int (-1000013)]) rfl rfl rfl rfl ?_
    refine ax_r rfl rfl rfl ?_
    show am_ex (d + 4) 222 34 [some (.ref 285), some (.int (nI j)), some (.int 5)] [.int (-1000013)] (am_hh X (am_u S 285 3 3) L) _
    refine ax_r rfl rfl rfl ?_
    exact k2 c1
theorem wk_as_2_0 {d : Nat} {X : Nat × (Nat → Int32)} {S : Nat → Nat → Int32} {L : Nat → Int64} {j : Nat} {Q : Option Value → am_H → Prop} (hk : S 22 j = 2) (hj : j < 6)  (x1 : ¬ (nI j) < 0 ∧ ¬ (S 20 4) ≤ (nI j) → j < 6) (k1 : ¬ (¬ (nI j) < 0 ∧ ¬ (S 20 4) ≤ (nI j)) → Q (some (.int (-1000001))) (am_hh X S L)) (k2 : ¬ (nI j) < 0 ∧ ¬ (S 20 4) ≤ (nI j) → Q (some (.int (nI j))) (am_hh X (am_u S 5 12 0) L)) : am_mt (d + 4) 133 [.ref 5, .int (nI j), .int 0] (am_hh X S L) Q := by
  refine ax_in (ls := [some (.ref 5), some (.int (nI j)), some (.int 0)]) rfl ?_
  refine ax_s (pc' := 1) (st' := [.ref 5]) rfl rfl rfl rfl ?_
  refine ax_get rfl (hh_5 _ _ _) rfl rfl rfl ?_
  show am_ex (d + 4) 133 4 [some (.ref 5), some (.int (nI j)), some (.int 0)] [.ref 20] (am_hh X S L) _
  refine ax_s (pc' := 5) (st' := [.int (nI j), .ref 20]) rfl rfl rfl rfl ?_
  refine ax_call (vs := [.ref 20, .int (nI j)]) (rr := []) rfl rfl rfl ?_
  refine kw (am_hh_sub isW20 X S L) (am_hh_sub isW20 X S L).symm (fun _ => ct_hasParty (am_isW_k isW20 X S L)) ?_
  show am_ex (d + 4) 133 8 [some (.ref 5), some (.int (nI j)), some (.int 0)] [.int (bI (decide (¬ (nI j) < 0 ∧ ¬ (S 20 4) ≤ (nI j))))] (am_hh X S L) _
  refine ax_pF rfl (fun c1 => ?_) (fun c1 => ?_)
  · refine ax_s (pc' := 22) (st' := [.int (-1000001)]) rfl rfl rfl rfl ?_
    refine ax_r rfl rfl rfl ?_
    exact k1 c1
  · refine ax_s (pc' := 12) (st' := [.int 0]) rfl rfl rfl rfl ?_
    refine ax_s (pc' := 13) (st' := [.int 0, .int 0]) rfl rfl rfl rfl ?_
    refine ax_s (pc' := 14) (st' := [.int 5, .int 0, .int 0]) rfl rfl rfl rfl ?_
    refine ax_call (vs := [.int 0, .int 0, .int 5]) (rr := []) rfl rfl rfl ?_
    refine ct_isOutside ?_
    show am_ex (d + 4) 133 17 [some (.ref 5), some (.int (nI j)), some (.int 0)] [.int 0] (am_hh X S L) _
    refine ax_if_eq rfl (fun c2 => ?_) (fun c2 => False.elim (by revert c2; decide))
    refine ax_s (pc' := 24) (st' := [.ref 5]) rfl rfl rfl rfl ?_
    refine ax_get rfl (hh_5 _ _ _) rfl rfl rfl ?_
    show am_ex (d + 4) 133 27 [some (.ref 5), some (.int (nI j)), some (.int 0)] [.ref 20] (am_hh X S L) _
    refine ax_get rfl (hh_20 _ _ _) rfl rfl rfl ?_
    show am_ex (d + 4) 133 30 [some (.ref 5), some (.int (nI j)), some (.int 0)] [.ref 22] (am_hh X S L) _
    refine ax_s (pc' := 31) (st' := [.int (nI j), .ref 22]) rfl rfl rfl rfl ?_
    refine ax_ald (j := j) (v := 2) rfl (hh_22 _ _ _) rfl rfl (x1 c1) (by decide) hk ?_
    refine ax_s (pc' := 33) (st' := [.int 0, .int 2]) rfl rfl rfl rfl ?_
    refine ax_call (vs := [.int 2, .int 0]) (rr := []) rfl rfl rfl ?_
    refine kt_isSuch_2_0 ?_
    show am_ex (d + 4) 133 36 [some (.ref 5), some (.int (nI j)), some (.int 0)] [.int 1] (am_hh X S L) _
    refine ax_if_ne rfl (fun c3 => ?_) (fun c3 => False.elim (by revert c3; decide))
    refine ax_s (pc' := 46) (st' := [.ref 5]) rfl rfl rfl rfl ?_
    refine ax_s (pc' := 47) (st' := [.int (nI j), .ref 5]) rfl rfl rfl rfl ?_
    refine ax_call (vs := [.ref 5, .int (nI j)]) (rr := []) rfl rfl rfl ?_
    refine ax_in (ls := [some (.ref 5), some (.int (nI j))]) rfl ?_
    refine ax_s (pc' := 1) (st' := [.ref 5]) rfl rfl rfl rfl ?_
    refine ax_s (pc' := 2) (st' := [.int 0, .ref 5]) rfl rfl rfl rfl ?_
    refine ax_put rfl (hh_5 _ _ _) rfl rfl (show 12 + 1 ≤ _ from Nat.le_of_ble_eq_true rfl) rfl (am_hh_set _ _ _ 5 12 _ rfl) ?_
    refine ax_s (pc' := 6) (st' := [.int (nI j)]) rfl rfl rfl rfl ?_
    refine ax_r rfl rfl rfl ?_
    show am_ex (d + 4) 133 50 [some (.ref 5), some (.int (nI j)), some (.int 0)] [.int (nI j)] (am_hh X (am_u S 5 12 0) L) _
    refine ax_r rfl rfl rfl ?_
    exact k2 c1
theorem wm_as_2_0 {d : Nat} {X : Nat × (Nat → Int32)} {S : Nat → Nat → Int32} {L : Nat → Int64} {j : Nat} {Q : Option Value → am_H → Prop} (hk : S 290 j = 2) (hj : j < 6)  (x1 : ¬ (nI j) < 0 ∧ ¬ (S 285 7) - 1 < (nI j) → j < 6) (k1 : ¬ (¬ (nI j) < 0 ∧ ¬ (S 285 7) - 1 < (nI j)) → Q (some (.int (-1000001))) (am_hh X S L)) (k2 : ¬ (nI j) < 0 ∧ ¬ (S 285 7) - 1 < (nI j) → Q (some (.int (nI j))) (am_hh X (am_u S 285 3 0) L)) : am_mt (d + 4) 222 [.ref 285, .int (nI j), .int 0] (am_hh X S L) Q := by
  refine ax_in (ls := [some (.ref 285), some (.int (nI j)), some (.int 0)]) rfl ?_
  refine ax_s (pc' := 1) (st' := [.ref 285]) rfl rfl rfl rfl ?_
  refine ax_s (pc' := 2) (st' := [.int (nI j), .ref 285]) rfl rfl rfl rfl ?_
  refine ax_call (vs := [.ref 285, .int (nI j)]) (rr := []) rfl rfl rfl ?_
  refine mt_isParty  ?_
  show am_ex (d + 4) 222 5 [some (.ref 285), some (.int (nI j)), some (.int 0)] [.int (bI (decide (¬ (nI j) < 0 ∧ ¬ (S 285 7) - 1 < (nI j))))] (am_hh X S L) _
  refine ax_pF rfl (fun c1 => ?_) (fun c1 => ?_)
  · refine ax_s (pc' := 19) (st' := [.int (-1000001)]) rfl rfl rfl rfl ?_
    refine ax_r rfl rfl rfl ?_
    exact k1 c1
  · refine ax_s (pc' := 9) (st' := [.int 0]) rfl rfl rfl rfl ?_
    refine ax_s (pc' := 10) (st' := [.int 0, .int 0]) rfl rfl rfl rfl ?_
    refine ax_s (pc' := 11) (st' := [.int 5, .int 0, .int 0]) rfl rfl rfl rfl ?_
    refine ax_call (vs := [.int 0, .int 0, .int 5]) (rr := []) rfl rfl rfl ?_
    refine mt_in ?_
    show am_ex (d + 4) 222 14 [some (.ref 285), some (.int (nI j)), some (.int 0)] [.int 1] (am_hh X S L) _
    refine ax_if_ne rfl (fun c2 => ?_) (fun c2 => False.elim (by revert c2; decide))
    refine ax_s (pc' := 21) (st' := [.ref 285]) rfl rfl rfl rfl ?_
    refine ax_s (pc' := 22) (st' := [.int (nI j), .ref 285]) rfl rfl rfl rfl ?_
    refine ax_s (pc' := 23) (st' := [.int 0, .int (nI j), .ref 285]) rfl rfl rfl rfl ?_
    refine ax_call (vs := [.ref 285, .int (nI j), .int 0]) (rr := []) rfl rfl rfl ?_
    refine ax_in (ls := [some (.ref 285), some (.int (nI j)), some (.int 0), none]) rfl ?_
    refine ax_s (pc' := 1) (st' := [.ref 285]) rfl rfl rfl rfl ?_
    refine ax_get rfl (hh_285 _ _ _) rfl rfl rfl ?_
    show am_ex (d + 3) 223 4 [some (.ref 285), some (.int (nI j)), some (.int 0), none] [.ref 290] (am_hh X S L) _
    refine ax_s (pc' := 5) (st' := [.int (nI j), .ref 290]) rfl rfl rfl rfl ?_
    refine ax_ald (j := j) (v := 2) rfl (hh_290 _ _ _) rfl rfl (x1 c1) (by decide) hk ?_
    refine ax_s (pc' := 7) (ls' := [some (.ref 285), some (.int (nI j)), some (.int 0), some (.int 2)]) (st' := []) rfl rfl rfl rfl ?_
    refine ax_s (pc' := 8) (st' := [.int 0]) rfl rfl rfl rfl ?_
    refine ax_if_eq rfl (fun c3 => ?_) (fun c3 => False.elim (by revert c3; decide))
    refine ax_s (pc' := 37) (st' := [.int 1]) rfl rfl rfl rfl ?_
    refine ax_s (pc' := 41) (st' := [.int 1]) rfl rfl rfl rfl ?_
    refine ax_rb (b := true) rfl rfl ?_
    show am_ex (d + 4) 222 26 [some (.ref 285), some (.int (nI j)), some (.int 0)] [.int 1] (am_hh X S L) _
    refine ax_if_ne rfl (fun c4 => ?_) (fun c4 => False.elim (by revert c4; decide))
    refine ax_s (pc' := 36) (st' := [.ref 285]) rfl rfl rfl rfl ?_
    refine ax_s (pc' := 37) (st' := [.int 0, .ref 285]) rfl rfl rfl rfl ?_
    refine ax_put rfl (hh_285 _ _ _) rfl rfl (show 3 + 1 ≤ _ from Nat.le_of_ble_eq_true rfl) rfl (am_hh_set _ _ _ 285 3 _ rfl) ?_
    refine ax_s (pc' := 41) (st' := [.int (nI j)]) rfl rfl rfl rfl ?_
    refine ax_r rfl rfl rfl ?_
    exact k2 c1
theorem wk_as_2_1 {d : Nat} {X : Nat × (Nat → Int32)} {S : Nat → Nat → Int32} {L : Nat → Int64} {j : Nat} {Q : Option Value → am_H → Prop} (hk : S 22 j = 2) (hj : j < 6)  (x1 : ¬ (nI j) < 0 ∧ ¬ (S 20 4) ≤ (nI j) → j < 6) (k1 : ¬ (¬ (nI j) < 0 ∧ ¬ (S 20 4) ≤ (nI j)) → Q (some (.int (-1000001))) (am_hh X S L)) (k2 : ¬ (nI j) < 0 ∧ ¬ (S 20 4) ≤ (nI j) → Q (some (.int (nI j))) (am_hh X (am_u S 5 12 0) L)) : am_mt (d + 4) 133 [.ref 5, .int (nI j), .int 1] (am_hh X S L) Q := by
  refine ax_in (ls := [some (.ref 5), some (.int (nI j)), some (.int 1)]) rfl ?_
  refine ax_s (pc' := 1) (st' := [.ref 5]) rfl rfl rfl rfl ?_
  refine ax_get rfl (hh_5 _ _ _) rfl rfl rfl ?_
  show am_ex (d + 4) 133 4 [some (.ref 5), some (.int (nI j)), some (.int 1)] [.ref 20] (am_hh X S L) _
  refine ax_s (pc' := 5) (st' := [.int (nI j), .ref 20]) rfl rfl rfl rfl ?_
  refine ax_call (vs := [.ref 20, .int (nI j)]) (rr := []) rfl rfl rfl ?_
  refine kw (am_hh_sub isW20 X S L) (am_hh_sub isW20 X S L).symm (fun _ => ct_hasParty (am_isW_k isW20 X S L)) ?_
  show am_ex (d + 4) 133 8 [some (.ref 5), some (.int (nI j)), some (.int 1)] [.int (bI (decide (¬ (nI j) < 0 ∧ ¬ (S 20 4) ≤ (nI j))))] (am_hh X S L) _
  refine ax_pF rfl (fun c1 => ?_) (fun c1 => ?_)
  · refine ax_s (pc' := 22) (st' := [.int (-1000001)]) rfl rfl rfl rfl ?_
    refine ax_r rfl rfl rfl ?_
    exact k1 c1
  · refine ax_s (pc' := 12) (st' := [.int 1]) rfl rfl rfl rfl ?_
    refine ax_s (pc' := 13) (st' := [.int 0, .int 1]) rfl rfl rfl rfl ?_
    refine ax_s (pc' := 14) (st' := [.int 5, .int 0, .int 1]) rfl rfl rfl rfl ?_
    refine ax_call (vs := [.int 1, .int 0, .int 5]) (rr := []) rfl rfl rfl ?_
    refine ct_isOutside ?_
    show am_ex (d + 4) 133 17 [some (.ref 5), some (.int (nI j)), some (.int 1)] [.int 0] (am_hh X S L) _
    refine ax_if_eq rfl (fun c2 => ?_) (fun c2 => False.elim (by revert c2; decide))
    refine ax_s (pc' := 24) (st' := [.ref 5]) rfl rfl rfl rfl ?_
    refine ax_get rfl (hh_5 _ _ _) rfl rfl rfl ?_
    show am_ex (d + 4) 133 27 [some (.ref 5), some (.int (nI j)), some (.int 1)] [.ref 20] (am_hh X S L) _
    refine ax_get rfl (hh_20 _ _ _) rfl rfl rfl ?_
    show am_ex (d + 4) 133 30 [some (.ref 5), some (.int (nI j)), some (.int 1)] [.ref 22] (am_hh X S L) _
    refine ax_s (pc' := 31) (st' := [.int (nI j), .ref 22]) rfl rfl rfl rfl ?_
    refine ax_ald (j := j) (v := 2) rfl (hh_22 _ _ _) rfl rfl (x1 c1) (by decide) hk ?_
    refine ax_s (pc' := 33) (st' := [.int 1, .int 2]) rfl rfl rfl rfl ?_
    refine ax_call (vs := [.int 2, .int 1]) (rr := []) rfl rfl rfl ?_
    refine kt_isSuch_2_1 ?_
    show am_ex (d + 4) 133 36 [some (.ref 5), some (.int (nI j)), some (.int 1)] [.int 1] (am_hh X S L) _
    refine ax_if_ne rfl (fun c3 => ?_) (fun c3 => False.elim (by revert c3; decide))
    refine ax_s (pc' := 46) (st' := [.ref 5]) rfl rfl rfl rfl ?_
    refine ax_s (pc' := 47) (st' := [.int (nI j), .ref 5]) rfl rfl rfl rfl ?_
    refine ax_call (vs := [.ref 5, .int (nI j)]) (rr := []) rfl rfl rfl ?_
    refine ax_in (ls := [some (.ref 5), some (.int (nI j))]) rfl ?_
    refine ax_s (pc' := 1) (st' := [.ref 5]) rfl rfl rfl rfl ?_
    refine ax_s (pc' := 2) (st' := [.int 0, .ref 5]) rfl rfl rfl rfl ?_
    refine ax_put rfl (hh_5 _ _ _) rfl rfl (show 12 + 1 ≤ _ from Nat.le_of_ble_eq_true rfl) rfl (am_hh_set _ _ _ 5 12 _ rfl) ?_
    refine ax_s (pc' := 6) (st' := [.int (nI j)]) rfl rfl rfl rfl ?_
    refine ax_r rfl rfl rfl ?_
    show am_ex (d + 4) 133 50 [some (.ref 5), some (.int (nI j)), some (.int 1)] [.int (nI j)] (am_hh X (am_u S 5 12 0) L) _
    refine ax_r rfl rfl rfl ?_
    exact k2 c1
theorem wm_as_2_1 {d : Nat} {X : Nat × (Nat → Int32)} {S : Nat → Nat → Int32} {L : Nat → Int64} {j : Nat} {Q : Option Value → am_H → Prop} (hk : S 290 j = 2) (hj : j < 6)  (x1 : ¬ (nI j) < 0 ∧ ¬ (S 285 7) - 1 < (nI j) → j < 6) (k1 : ¬ (¬ (nI j) < 0 ∧ ¬ (S 285 7) - 1 < (nI j)) → Q (some (.int (-1000001))) (am_hh X S L)) (k2 : ¬ (nI j) < 0 ∧ ¬ (S 285 7) - 1 < (nI j) → Q (some (.int (nI j))) (am_hh X (am_u S 285 3 0) L)) : am_mt (d + 4) 222 [.ref 285, .int (nI j), .int 1] (am_hh X S L) Q := by
  refine ax_in (ls := [some (.ref 285), some (.int (nI j)), some (.int 1)]) rfl ?_
  refine ax_s (pc' := 1) (st' := [.ref 285]) rfl rfl rfl rfl ?_
  refine ax_s (pc' := 2) (st' := [.int (nI j), .ref 285]) rfl rfl rfl rfl ?_
  refine ax_call (vs := [.ref 285, .int (nI j)]) (rr := []) rfl rfl rfl ?_
  refine mt_isParty  ?_
  show am_ex (d + 4) 222 5 [some (.ref 285), some (.int (nI j)), some (.int 1)] [.int (bI (decide (¬ (nI j) < 0 ∧ ¬ (S 285 7) - 1 < (nI j))))] (am_hh X S L) _
  refine ax_pF rfl (fun c1 => ?_) (fun c1 => ?_)
  · refine ax_s (pc' := 19) (st' := [.int (-1000001)]) rfl rfl rfl rfl ?_
    refine ax_r rfl rfl rfl ?_
    exact k1 c1
  · refine ax_s (pc' := 9) (st' := [.int 1]) rfl rfl rfl rfl ?_
    refine ax_s (pc' := 10) (st' := [.int 0, .int 1]) rfl rfl rfl rfl ?_
    refine ax_s (pc' := 11) (st' := [.int 5, .int 0, .int 1]) rfl rfl rfl rfl ?_
    refine ax_call (vs := [.int 1, .int 0, .int 5]) (rr := []) rfl rfl rfl ?_
    refine mt_in ?_
    show am_ex (d + 4) 222 14 [some (.ref 285), some (.int (nI j)), some (.int 1)] [.int 1] (am_hh X S L) _
    refine ax_if_ne rfl (fun c2 => ?_) (fun c2 => False.elim (by revert c2; decide))
    refine ax_s (pc' := 21) (st' := [.ref 285]) rfl rfl rfl rfl ?_
    refine ax_s (pc' := 22) (st' := [.int (nI j), .ref 285]) rfl rfl rfl rfl ?_
    refine ax_s (pc' := 23) (st' := [.int 1, .int (nI j), .ref 285]) rfl rfl rfl rfl ?_
    refine ax_call (vs := [.ref 285, .int (nI j), .int 1]) (rr := []) rfl rfl rfl ?_
    refine ax_in (ls := [some (.ref 285), some (.int (nI j)), some (.int 1), none]) rfl ?_
    refine ax_s (pc' := 1) (st' := [.ref 285]) rfl rfl rfl rfl ?_
    refine ax_get rfl (hh_285 _ _ _) rfl rfl rfl ?_
    show am_ex (d + 3) 223 4 [some (.ref 285), some (.int (nI j)), some (.int 1), none] [.ref 290] (am_hh X S L) _
    refine ax_s (pc' := 5) (st' := [.int (nI j), .ref 290]) rfl rfl rfl rfl ?_
    refine ax_ald (j := j) (v := 2) rfl (hh_290 _ _ _) rfl rfl (x1 c1) (by decide) hk ?_
    refine ax_s (pc' := 7) (ls' := [some (.ref 285), some (.int (nI j)), some (.int 1), some (.int 2)]) (st' := []) rfl rfl rfl rfl ?_
    refine ax_s (pc' := 8) (st' := [.int 1]) rfl rfl rfl rfl ?_
    refine ax_if_eq rfl (fun c3 => False.elim (by revert c3; decide)) (fun c3 => ?_)
    refine ax_s (pc' := 12) (st' := [.int 1]) rfl rfl rfl rfl ?_
    refine ax_s (pc' := 13) (st' := [.int 2, .int 1]) rfl rfl rfl rfl ?_
    refine ax_cmp_eq rfl (fun c4 => False.elim (by revert c4; decide)) (fun c4 => ?_)
    refine ax_s (pc' := 17) (st' := [.int 1]) rfl rfl rfl rfl ?_
    refine ax_s (pc' := 18) (st' := [.int 1, .int 1]) rfl rfl rfl rfl ?_
    refine ax_cmp_ne rfl (fun c5 => False.elim (by revert c5; decide)) (fun c5 => ?_)
    refine ax_s (pc' := 22) (st' := [.int 2]) rfl rfl rfl rfl ?_
    refine ax_s (pc' := 23) (st' := [.int 4, .int 2]) rfl rfl rfl rfl ?_
    refine ax_cmp_lt rfl (fun c6 => ?_) (fun c6 => False.elim (by revert c6; decide))
    refine ax_s (pc' := 37) (st' := [.int 1]) rfl rfl rfl rfl ?_
    refine ax_s (pc' := 41) (st' := [.int 1]) rfl rfl rfl rfl ?_
    refine ax_rb (b := true) rfl rfl ?_
    show am_ex (d + 4) 222 26 [some (.ref 285), some (.int (nI j)), some (.int 1)] [.int 1] (am_hh X S L) _
    refine ax_if_ne rfl (fun c7 => ?_) (fun c7 => False.elim (by revert c7; decide))
    refine ax_s (pc' := 36) (st' := [.ref 285]) rfl rfl rfl rfl ?_
    refine ax_s (pc' := 37) (st' := [.int 0, .ref 285]) rfl rfl rfl rfl ?_
    refine ax_put rfl (hh_285 _ _ _) rfl rfl (show 3 + 1 ≤ _ from Nat.le_of_ble_eq_true rfl) rfl (am_hh_set _ _ _ 285 3 _ rfl) ?_
    refine ax_s (pc' := 41) (st' := [.int (nI j)]) rfl rfl rfl rfl ?_
    refine ax_r rfl rfl rfl ?_
    exact k2 c1
theorem wk_as_2_2 {d : Nat} {X : Nat × (Nat → Int32)} {S : Nat → Nat → Int32} {L : Nat → Int64} {j : Nat} {Q : Option Value → am_H → Prop} (hk : S 22 j = 2) (hj : j < 6)  (x1 : ¬ (nI j) < 0 ∧ ¬ (S 20 4) ≤ (nI j) → j < 6) (k1 : ¬ (¬ (nI j) < 0 ∧ ¬ (S 20 4) ≤ (nI j)) → Q (some (.int (-1000001))) (am_hh X S L)) (k2 : ¬ (nI j) < 0 ∧ ¬ (S 20 4) ≤ (nI j) → Q (some (.int (nI j))) (am_hh X (am_u S 5 12 0) L)) : am_mt (d + 4) 133 [.ref 5, .int (nI j), .int 2] (am_hh X S L) Q := by
  refine ax_in (ls := [some (.ref 5), some (.int (nI j)), some (.int 2)]) rfl ?_
  refine ax_s (pc' := 1) (st' := [.ref 5]) rfl rfl rfl rfl ?_
  refine ax_get rfl (hh_5 _ _ _) rfl rfl rfl ?_
  show am_ex (d + 4) 133 4 [some (.ref 5), some (.int (nI j)), some (.int 2)] [.ref 20] (am_hh X S L) _
  refine ax_s (pc' := 5) (st' := [.int (nI j), .ref 20]) rfl rfl rfl rfl ?_
  refine ax_call (vs := [.ref 20, .int (nI j)]) (rr := []) rfl rfl rfl ?_
  refine kw (am_hh_sub isW20 X S L) (am_hh_sub isW20 X S L).symm (fun _ => ct_hasParty (am_isW_k isW20 X S L)) ?_
  show am_ex (d + 4) 133 8 [some (.ref 5), some (.int (nI j)), some (.int 2)] [.int (bI (decide (¬ (nI j) < 0 ∧ ¬ (S 20 4) ≤ (nI j))))] (am_hh X S L) _
  refine ax_pF rfl (fun c1 => ?_) (fun c1 => ?_)
  · refine ax_s (pc' := 22) (st' := [.int (-1000001)]) rfl rfl rfl rfl ?_
    refine ax_r rfl rfl rfl ?_
    exact k1 c1
  · refine ax_s (pc' := 12) (st' := [.int 2]) rfl rfl rfl rfl ?_
    refine ax_s (pc' := 13) (st' := [.int 0, .int 2]) rfl rfl rfl rfl ?_
    refine ax_s (pc' := 14) (st' := [.int 5, .int 0, .int 2]) rfl rfl rfl rfl ?_
    refine ax_call (vs := [.int 2, .int 0, .int 5]) (rr := []) rfl rfl rfl ?_
    refine ct_isOutside ?_
    show am_ex (d + 4) 133 17 [some (.ref 5), some (.int (nI j)), some (.int 2)] [.int 0] (am_hh X S L) _
    refine ax_if_eq rfl (fun c2 => ?_) (fun c2 => False.elim (by revert c2; decide))
    refine ax_s (pc' := 24) (st' := [.ref 5]) rfl rfl rfl rfl ?_
    refine ax_get rfl (hh_5 _ _ _) rfl rfl rfl ?_
    show am_ex (d + 4) 133 27 [some (.ref 5), some (.int (nI j)), some (.int 2)] [.ref 20] (am_hh X S L) _
    refine ax_get rfl (hh_20 _ _ _) rfl rfl rfl ?_
    show am_ex (d + 4) 133 30 [some (.ref 5), some (.int (nI j)), some (.int 2)] [.ref 22] (am_hh X S L) _
    refine ax_s (pc' := 31) (st' := [.int (nI j), .ref 22]) rfl rfl rfl rfl ?_
    refine ax_ald (j := j) (v := 2) rfl (hh_22 _ _ _) rfl rfl (x1 c1) (by decide) hk ?_
    refine ax_s (pc' := 33) (st' := [.int 2, .int 2]) rfl rfl rfl rfl ?_
    refine ax_call (vs := [.int 2, .int 2]) (rr := []) rfl rfl rfl ?_
    refine kt_isSuch_2_2 ?_
    show am_ex (d + 4) 133 36 [some (.ref 5), some (.int (nI j)), some (.int 2)] [.int 1] (am_hh X S L) _
    refine ax_if_ne rfl (fun c3 => ?_) (fun c3 => False.elim (by revert c3; decide))
    refine ax_s (pc' := 46) (st' := [.ref 5]) rfl rfl rfl rfl ?_
    refine ax_s (pc' := 47) (st' := [.int (nI j), .ref 5]) rfl rfl rfl rfl ?_
    refine ax_call (vs := [.ref 5, .int (nI j)]) (rr := []) rfl rfl rfl ?_
    refine ax_in (ls := [some (.ref 5), some (.int (nI j))]) rfl ?_
    refine ax_s (pc' := 1) (st' := [.ref 5]) rfl rfl rfl rfl ?_
    refine ax_s (pc' := 2) (st' := [.int 0, .ref 5]) rfl rfl rfl rfl ?_
    refine ax_put rfl (hh_5 _ _ _) rfl rfl (show 12 + 1 ≤ _ from Nat.le_of_ble_eq_true rfl) rfl (am_hh_set _ _ _ 5 12 _ rfl) ?_
    refine ax_s (pc' := 6) (st' := [.int (nI j)]) rfl rfl rfl rfl ?_
    refine ax_r rfl rfl rfl ?_
    show am_ex (d + 4) 133 50 [some (.ref 5), some (.int (nI j)), some (.int 2)] [.int (nI j)] (am_hh X (am_u S 5 12 0) L) _
    refine ax_r rfl rfl rfl ?_
    exact k2 c1
theorem wm_as_2_2 {d : Nat} {X : Nat × (Nat → Int32)} {S : Nat → Nat → Int32} {L : Nat → Int64} {j : Nat} {Q : Option Value → am_H → Prop} (hk : S 290 j = 2) (hj : j < 6)  (x1 : ¬ (nI j) < 0 ∧ ¬ (S 285 7) - 1 < (nI j) → j < 6) (k1 : ¬ (¬ (nI j) < 0 ∧ ¬ (S 285 7) - 1 < (nI j)) → Q (some (.int (-1000001))) (am_hh X S L)) (k2 : ¬ (nI j) < 0 ∧ ¬ (S 285 7) - 1 < (nI j) → Q (some (.int (nI j))) (am_hh X (am_u S 285 3 0) L)) : am_mt (d + 4) 222 [.ref 285, .int (nI j), .int 2] (am_hh X S L) Q := by
  refine ax_in (ls := [some (.ref 285), some (.int (nI j)), some (.int 2)]) rfl ?_
  refine ax_s (pc' := 1) (st' := [.ref 285]) rfl rfl rfl rfl ?_
  refine ax_s (pc' := 2) (st' := [.int (nI j), .ref 285]) rfl rfl rfl rfl ?_
  refine ax_call (vs := [.ref 285, .int (nI j)]) (rr := []) rfl rfl rfl ?_
  refine mt_isParty  ?_
  show am_ex (d + 4) 222 5 [some (.ref 285), some (.int (nI j)), some (.int 2)] [.int (bI (decide (¬ (nI j) < 0 ∧ ¬ (S 285 7) - 1 < (nI j))))] (am_hh X S L) _
  refine ax_pF rfl (fun c1 => ?_) (fun c1 => ?_)
  · refine ax_s (pc' := 19) (st' := [.int (-1000001)]) rfl rfl rfl rfl ?_
    refine ax_r rfl rfl rfl ?_
    exact k1 c1
  · refine ax_s (pc' := 9) (st' := [.int 2]) rfl rfl rfl rfl ?_
    refine ax_s (pc' := 10) (st' := [.int 0, .int 2]) rfl rfl rfl rfl ?_
    refine ax_s (pc' := 11) (st' := [.int 5, .int 0, .int 2]) rfl rfl rfl rfl ?_
    refine ax_call (vs := [.int 2, .int 0, .int 5]) (rr := []) rfl rfl rfl ?_
    refine mt_in ?_
    show am_ex (d + 4) 222 14 [some (.ref 285), some (.int (nI j)), some (.int 2)] [.int 1] (am_hh X S L) _
    refine ax_if_ne rfl (fun c2 => ?_) (fun c2 => False.elim (by revert c2; decide))
    refine ax_s (pc' := 21) (st' := [.ref 285]) rfl rfl rfl rfl ?_
    refine ax_s (pc' := 22) (st' := [.int (nI j), .ref 285]) rfl rfl rfl rfl ?_
    refine ax_s (pc' := 23) (st' := [.int 2, .int (nI j), .ref 285]) rfl rfl rfl rfl ?_
    refine ax_call (vs := [.ref 285, .int (nI j), .int 2]) (rr := []) rfl rfl rfl ?_
    refine ax_in (ls := [some (.ref 285), some (.int (nI j)), some (.int 2), none]) rfl ?_
    refine ax_s (pc' := 1) (st' := [.ref 285]) rfl rfl rfl rfl ?_
    refine ax_get rfl (hh_285 _ _ _) rfl rfl rfl ?_
    show am_ex (d + 3) 223 4 [some (.ref 285), some (.int (nI j)), some (.int 2), none] [.ref 290] (am_hh X S L) _
    refine ax_s (pc' := 5) (st' := [.int (nI j), .ref 290]) rfl rfl rfl rfl ?_
    refine ax_ald (j := j) (v := 2) rfl (hh_290 _ _ _) rfl rfl (x1 c1) (by decide) hk ?_
    refine ax_s (pc' := 7) (ls' := [some (.ref 285), some (.int (nI j)), some (.int 2), some (.int 2)]) (st' := []) rfl rfl rfl rfl ?_
    refine ax_s (pc' := 8) (st' := [.int 2]) rfl rfl rfl rfl ?_
    refine ax_if_eq rfl (fun c3 => False.elim (by revert c3; decide)) (fun c3 => ?_)
    refine ax_s (pc' := 12) (st' := [.int 2]) rfl rfl rfl rfl ?_
    refine ax_s (pc' := 13) (st' := [.int 2, .int 2]) rfl rfl rfl rfl ?_
    refine ax_cmp_eq rfl (fun c4 => ?_) (fun c4 => False.elim (by revert c4; decide))
    refine ax_s (pc' := 37) (st' := [.int 1]) rfl rfl rfl rfl ?_
    refine ax_s (pc' := 41) (st' := [.int 1]) rfl rfl rfl rfl ?_
    refine ax_rb (b := true) rfl rfl ?_
    show am_ex (d + 4) 222 26 [some (.ref 285), some (.int (nI j)), some (.int 2)] [.int 1] (am_hh X S L) _
    refine ax_if_ne rfl (fun c5 => ?_) (fun c5 => False.elim (by revert c5; decide))
    refine ax_s (pc' := 36) (st' := [.ref 285]) rfl rfl rfl rfl ?_
    refine ax_s (pc' := 37) (st' := [.int 0, .ref 285]) rfl rfl rfl rfl ?_
    refine ax_put rfl (hh_285 _ _ _) rfl rfl (show 3 + 1 ≤ _ from Nat.le_of_ble_eq_true rfl) rfl (am_hh_set _ _ _ 285 3 _ rfl) ?_
    refine ax_s (pc' := 41) (st' := [.int (nI j)]) rfl rfl rfl rfl ?_
    refine ax_r rfl rfl rfl ?_
    exact k2 c1
theorem wk_as_2_3 {d : Nat} {X : Nat × (Nat → Int32)} {S : Nat → Nat → Int32} {L : Nat → Int64} {j : Nat} {Q : Option Value → am_H → Prop} (hk : S 22 j = 2) (hj : j < 6)  (x1 : ¬ (nI j) < 0 ∧ ¬ (S 20 4) ≤ (nI j) → j < 6) (k1 : ¬ (¬ (nI j) < 0 ∧ ¬ (S 20 4) ≤ (nI j)) → Q (some (.int (-1000001))) (am_hh X S L)) (k2 : ¬ (nI j) < 0 ∧ ¬ (S 20 4) ≤ (nI j) → Q (some (.int (-1000013))) (am_hh X (am_u S 5 12 3) L)) : am_mt (d + 4) 133 [.ref 5, .int (nI j), .int 3] (am_hh X S L) Q := by
  refine ax_in (ls := [some (.ref 5), some (.int (nI j)), some (.int 3)]) rfl ?_
  refine ax_s (pc' := 1) (st' := [.ref 5]) rfl rfl rfl rfl ?_
  refine ax_get rfl (hh_5 _ _ _) rfl rfl rfl ?_
  show am_ex (d + 4) 133 4 [some (.ref 5), some (.int (nI j)), some (.int 3)] [.ref 20] (am_hh X S L) _
  refine ax_s (pc' := 5) (st' := [.int (nI j), .ref 20]) rfl rfl rfl rfl ?_
  refine ax_call (vs := [.ref 20, .int (nI j)]) (rr := []) rfl rfl rfl ?_
  refine kw (am_hh_sub isW20 X S L) (am_hh_sub isW20 X S L).symm (fun _ => ct_hasParty (am_isW_k isW20 X S L)) ?_
  show am_ex (d + 4) 133 8 [some (.ref 5), some (.int (nI j)), some (.int 3)] [.int (bI (decide (¬ (nI j) < 0 ∧ ¬ (S 20 4) ≤ (nI j))))] (am_hh X S L) _
  refine ax_pF rfl (fun c1 => ?_) (fun c1 => ?_)
  · refine ax_s (pc' := 22) (st' := [.int (-1000001)]) rfl rfl rfl rfl ?_
    refine ax_r rfl rfl rfl ?_
    exact k1 c1
  · refine ax_s (pc' := 12) (st' := [.int 3]) rfl rfl rfl rfl ?_
    refine ax_s (pc' := 13) (st' := [.int 0, .int 3]) rfl rfl rfl rfl ?_
    refine ax_s (pc' := 14) (st' := [.int 5, .int 0, .int 3]) rfl rfl rfl rfl ?_
    refine ax_call (vs := [.int 3, .int 0, .int 5]) (rr := []) rfl rfl rfl ?_
    refine ct_isOutside ?_
    show am_ex (d + 4) 133 17 [some (.ref 5), some (.int (nI j)), some (.int 3)] [.int 0] (am_hh X S L) _
    refine ax_if_eq rfl (fun c2 => ?_) (fun c2 => False.elim (by revert c2; decide))
    refine ax_s (pc' := 24) (st' := [.ref 5]) rfl rfl rfl rfl ?_
    refine ax_get rfl (hh_5 _ _ _) rfl rfl rfl ?_
    show am_ex (d + 4) 133 27 [some (.ref 5), some (.int (nI j)), some (.int 3)] [.ref 20] (am_hh X S L) _
    refine ax_get rfl (hh_20 _ _ _) rfl rfl rfl ?_
    show am_ex (d + 4) 133 30 [some (.ref 5), some (.int (nI j)), some (.int 3)] [.ref 22] (am_hh X S L) _
    refine ax_s (pc' := 31) (st' := [.int (nI j), .ref 22]) rfl rfl rfl rfl ?_
    refine ax_ald (j := j) (v := 2) rfl (hh_22 _ _ _) rfl rfl (x1 c1) (by decide) hk ?_
    refine ax_s (pc' := 33) (st' := [.int 3, .int 2]) rfl rfl rfl rfl ?_
    refine ax_call (vs := [.int 2, .int 3]) (rr := []) rfl rfl rfl ?_
    refine kt_isSuch_2_3 ?_
    show am_ex (d + 4) 133 36 [some (.ref 5), some (.int (nI j)), some (.int 3)] [.int 0] (am_hh X S L) _
    refine ax_if_ne rfl (fun c3 => False.elim (by revert c3; decide)) (fun c3 => ?_)
    refine ax_s (pc' := 40) (st' := [.ref 5]) rfl rfl rfl rfl ?_
    refine ax_s (pc' := 41) (st' := [.int 3, .ref 5]) rfl rfl rfl rfl ?_
    refine ax_call (vs := [.ref 5, .int 3]) (rr := []) rfl rfl rfl ?_
    refine ax_in (ls := [some (.ref 5), some (.int 3)]) rfl ?_
    refine ax_s (pc' := 1) (st' := [.ref 5]) rfl rfl rfl rfl ?_
    refine ax_s (pc' := 2) (st' := [.int 3, .ref 5]) rfl rfl rfl rfl ?_
    refine ax_put rfl (hh_5 _ _ _) rfl rfl (show 12 + 1 ≤ _ from Nat.le_of_ble_eq_true rfl) rfl (am_hh_set _ _ _ 5 12 _ rfl) ?_
    refine ax_s (pc' := 8) (st' := [.int (-1000010)]) rfl rfl rfl rfl ?_
    refine ax_s (pc' := 9) (st' := [.int 3, .int (-1000010)]) rfl rfl rfl rfl ?_
    refine ax_s (pc' := 10) (st' := [.int (-1000013)]) rfl rfl rfl rfl ?_
    refine ax_r rfl rfl rfl ?_
    show am_ex (d + 4) 133 44 [some (.ref 5), some (.int (nI j)), some (.int 3)] [.int (-1000013)] (am_hh X (am_u S 5 12 3) L) _
    refine ax_r rfl rfl rfl ?_
    exact k2 c1
theorem wm_as_2_3 {d : Nat} {X : Nat × (Nat → Int32)} {S : Nat → Nat → Int32} {L : Nat → Int64} {j : Nat} {Q : Option Value → am_H → Prop} (hk : S 290 j = 2) (hj : j < 6)  (x1 : ¬ (nI j) < 0 ∧ ¬ (S 285 7) - 1 < (nI j) → j < 6) (k1 : ¬ (¬ (nI j) < 0 ∧ ¬ (S 285 7) - 1 < (nI j)) → Q (some (.int (-1000001))) (am_hh X S L)) (k2 : ¬ (nI j) < 0 ∧ ¬ (S 285 7) - 1 < (nI j) → Q (some (.int (-1000013))) (am_hh X (am_u S 285 3 3) L)) : am_mt (d + 4) 222 [.ref 285, .int (nI j), .int 3] (am_hh X S L) Q := by
  refine ax_in (ls := [some (.ref 285), some (.int (nI j)), some (.int 3)]) rfl ?_
  refine ax_s (pc' := 1) (st' := [.ref 285]) rfl rfl rfl rfl ?_
  refine ax_s (pc' := 2) (st' := [.int (nI j), .ref 285]) rfl rfl rfl rfl ?_
  refine ax_call (vs := [.ref 285, .int (nI j)]) (rr := []) rfl rfl rfl ?_
  refine mt_isParty  ?_
  show am_ex (d + 4) 222 5 [some (.ref 285), some (.int (nI j)), some (.int 3)] [.int (bI (decide (¬ (nI j) < 0 ∧ ¬ (S 285 7) - 1 < (nI j))))] (am_hh X S L) _
  refine ax_pF rfl (fun c1 => ?_) (fun c1 => ?_)
  · refine ax_s (pc' := 19) (st' := [.int (-1000001)]) rfl rfl rfl rfl ?_
    refine ax_r rfl rfl rfl ?_
    exact k1 c1
  · refine ax_s (pc' := 9) (st' := [.int 3]) rfl rfl rfl rfl ?_
    refine ax_s (pc' := 10) (st' := [.int 0, .int 3]) rfl rfl rfl rfl ?_
    refine ax_s (pc' := 11) (st' := [.int 5, .int 0, .int 3]) rfl rfl rfl rfl ?_
    refine ax_call (vs := [.int 3, .int 0, .int 5]) (rr := []) rfl rfl rfl ?_
    refine mt_in ?_
    show am_ex (d + 4) 222 14 [some (.ref 285), some (.int (nI j)), some (.int 3)] [.int 1] (am_hh X S L) _
    refine ax_if_ne rfl (fun c2 => ?_) (fun c2 => False.elim (by revert c2; decide))
    refine ax_s (pc' := 21) (st' := [.ref 285]) rfl rfl rfl rfl ?_
    refine ax_s (pc' := 22) (st' := [.int (nI j), .ref 285]) rfl rfl rfl rfl ?_
    refine ax_s (pc' := 23) (st' := [.int 3, .int (nI j), .ref 285]) rfl rfl rfl rfl ?_
    refine ax_call (vs := [.ref 285, .int (nI j), .int 3]) (rr := []) rfl rfl rfl ?_
    refine ax_in (ls := [some (.ref 285), some (.int (nI j)), some (.int 3), none]) rfl ?_
    refine ax_s (pc' := 1) (st' := [.ref 285]) rfl rfl rfl rfl ?_
    refine ax_get rfl (hh_285 _ _ _) rfl rfl rfl ?_
    show am_ex (d + 3) 223 4 [some (.ref 285), some (.int (nI j)), some (.int 3), none] [.ref 290] (am_hh X S L) _
    refine ax_s (pc' := 5) (st' := [.int (nI j), .ref 290]) rfl rfl rfl rfl ?_
    refine ax_ald (j := j) (v := 2) rfl (hh_290 _ _ _) rfl rfl (x1 c1) (by decide) hk ?_
    refine ax_s (pc' := 7) (ls' := [some (.ref 285), some (.int (nI j)), some (.int 3), some (.int 2)]) (st' := []) rfl rfl rfl rfl ?_
    refine ax_s (pc' := 8) (st' := [.int 3]) rfl rfl rfl rfl ?_
    refine ax_if_eq rfl (fun c3 => False.elim (by revert c3; decide)) (fun c3 => ?_)
    refine ax_s (pc' := 12) (st' := [.int 3]) rfl rfl rfl rfl ?_
    refine ax_s (pc' := 13) (st' := [.int 2, .int 3]) rfl rfl rfl rfl ?_
    refine ax_cmp_eq rfl (fun c4 => False.elim (by revert c4; decide)) (fun c4 => ?_)
    refine ax_s (pc' := 17) (st' := [.int 3]) rfl rfl rfl rfl ?_
    refine ax_s (pc' := 18) (st' := [.int 1, .int 3]) rfl rfl rfl rfl ?_
    refine ax_cmp_ne rfl (fun c5 => ?_) (fun c5 => False.elim (by revert c5; decide))
    refine ax_s (pc' := 27) (st' := [.int 3]) rfl rfl rfl rfl ?_
    refine ax_s (pc' := 28) (st' := [.int 4, .int 3]) rfl rfl rfl rfl ?_
    refine ax_cmp_ne rfl (fun c6 => ?_) (fun c6 => False.elim (by revert c6; decide))
    refine ax_s (pc' := 41) (st' := [.int 0]) rfl rfl rfl rfl ?_
    refine ax_rb (b := false) rfl rfl ?_
    show am_ex (d + 4) 222 26 [some (.ref 285), some (.int (nI j)), some (.int 3)] [.int 0] (am_hh X S L) _
    refine ax_if_ne rfl (fun c7 => False.elim (by revert c7; decide)) (fun c7 => ?_)
    refine ax_s (pc' := 30) (st' := [.ref 285]) rfl rfl rfl rfl ?_
    refine ax_s (pc' := 31) (st' := [.int 3, .ref 285]) rfl rfl rfl rfl ?_
    refine ax_call (vs := [.ref 285, .int 3]) (rr := []) rfl rfl rfl ?_
    refine ax_in (ls := [some (.ref 285), some (.int 3)]) rfl ?_
    refine ax_s (pc' := 1) (st' := [.ref 285]) rfl rfl rfl rfl ?_
    refine ax_s (pc' := 2) (st' := [.int 3, .ref 285]) rfl rfl rfl rfl ?_
    refine ax_put rfl (hh_285 _ _ _) rfl rfl (show 3 + 1 ≤ _ from Nat.le_of_ble_eq_true rfl) rfl (am_hh_set _ _ _ 285 3 _ rfl) ?_
    refine ax_s (pc' := 7) (st' := [.int (-1000010)]) rfl rfl rfl rfl ?_
    refine ax_s (pc' := 8) (st' := [.int 3, .int (-1000010)]) rfl rfl rfl rfl ?_
    refine ax_s (pc' := 9) (st' := [.int (-1000013)]) rfl rfl rfl rfl ?_
    refine ax_r rfl rfl rfl ?_
    show am_ex (d + 4) 222 34 [some (.ref 285), some (.int (nI j)), some (.int 3)] [.int (-1000013)] (am_hh X (am_u S 285 3 3) L) _
    refine ax_r rfl rfl rfl ?_
    exact k2 c1
theorem wk_as_2_4 {d : Nat} {X : Nat × (Nat → Int32)} {S : Nat → Nat → Int32} {L : Nat → Int64} {j : Nat} {Q : Option Value → am_H → Prop} (hk : S 22 j = 2) (hj : j < 6)  (x1 : ¬ (nI j) < 0 ∧ ¬ (S 20 4) ≤ (nI j) → j < 6) (k1 : ¬ (¬ (nI j) < 0 ∧ ¬ (S 20 4) ≤ (nI j)) → Q (some (.int (-1000001))) (am_hh X S L)) (k2 : ¬ (nI j) < 0 ∧ ¬ (S 20 4) ≤ (nI j) → Q (some (.int (-1000013))) (am_hh X (am_u S 5 12 3) L)) : am_mt (d + 4) 133 [.ref 5, .int (nI j), .int 4] (am_hh X S L) Q := by
  refine ax_in (ls := [some (.ref 5), some (.int (nI j)), some (.int 4)]) rfl ?_
  refine ax_s (pc' := 1) (st' := [.ref 5]) rfl rfl rfl rfl ?_
  refine ax_get rfl (hh_5 _ _ _) rfl rfl rfl ?_
  show am_ex (d + 4) 133 4 [some (.ref 5), some (.int (nI j)), some (.int 4)] [.ref 20] (am_hh X S L) _
  refine ax_s (pc' := 5) (st' := [.int (nI j), .ref 20]) rfl rfl rfl rfl ?_
  refine ax_call (vs := [.ref 20, .int (nI j)]) (rr := []) rfl rfl rfl ?_
  refine kw (am_hh_sub isW20 X S L) (am_hh_sub isW20 X S L).symm (fun _ => ct_hasParty (am_isW_k isW20 X S L)) ?_
  show am_ex (d + 4) 133 8 [some (.ref 5), some (.int (nI j)), some (.int 4)] [.int (bI (decide (¬ (nI j) < 0 ∧ ¬ (S 20 4) ≤ (nI j))))] (am_hh X S L) _
  refine ax_pF rfl (fun c1 => ?_) (fun c1 => ?_)
  · refine ax_s (pc' := 22) (st' := [.int (-1000001)]) rfl rfl rfl rfl ?_
    refine ax_r rfl rfl rfl ?_
    exact k1 c1
  · refine ax_s (pc' := 12) (st' := [.int 4]) rfl rfl rfl rfl ?_
    refine ax_s (pc' := 13) (st' := [.int 0, .int 4]) rfl rfl rfl rfl ?_
    refine ax_s (pc' := 14) (st' := [.int 5, .int 0, .int 4]) rfl rfl rfl rfl ?_
    refine ax_call (vs := [.int 4, .int 0, .int 5]) (rr := []) rfl rfl rfl ?_
    refine ct_isOutside ?_
    show am_ex (d + 4) 133 17 [some (.ref 5), some (.int (nI j)), some (.int 4)] [.int 0] (am_hh X S L) _
    refine ax_if_eq rfl (fun c2 => ?_) (fun c2 => False.elim (by revert c2; decide))
    refine ax_s (pc' := 24) (st' := [.ref 5]) rfl rfl rfl rfl ?_
    refine ax_get rfl (hh_5 _ _ _) rfl rfl rfl ?_
    show am_ex (d + 4) 133 27 [some (.ref 5), some (.int (nI j)), some (.int 4)] [.ref 20] (am_hh X S L) _
    refine ax_get rfl (hh_20 _ _ _) rfl rfl rfl ?_
    show am_ex (d + 4) 133 30 [some (.ref 5), some (.int (nI j)), some (.int 4)] [.ref 22] (am_hh X S L) _
    refine ax_s (pc' := 31) (st' := [.int (nI j), .ref 22]) rfl rfl rfl rfl ?_
    refine ax_ald (j := j) (v := 2) rfl (hh_22 _ _ _) rfl rfl (x1 c1) (by decide) hk ?_
    refine ax_s (pc' := 33) (st' := [.int 4, .int 2]) rfl rfl rfl rfl ?_
    refine ax_call (vs := [.int 2, .int 4]) (rr := []) rfl rfl rfl ?_
    refine kt_isSuch_2_4 ?_
    show am_ex (d + 4) 133 36 [some (.ref 5), some (.int (nI j)), some (.int 4)] [.int 0] (am_hh X S L) _
    refine ax_if_ne rfl (fun c3 => False.elim (by revert c3; decide)) (fun c3 => ?_)
    refine ax_s (pc' := 40) (st' := [.ref 5]) rfl rfl rfl rfl ?_
    refine ax_s (pc' := 41) (st' := [.int 3, .ref 5]) rfl rfl rfl rfl ?_
    refine ax_call (vs := [.ref 5, .int 3]) (rr := []) rfl rfl rfl ?_
    refine ax_in (ls := [some (.ref 5), some (.int 3)]) rfl ?_
    refine ax_s (pc' := 1) (st' := [.ref 5]) rfl rfl rfl rfl ?_
    refine ax_s (pc' := 2) (st' := [.int 3, .ref 5]) rfl rfl rfl rfl ?_
    refine ax_put rfl (hh_5 _ _ _) rfl rfl (show 12 + 1 ≤ _ from Nat.le_of_ble_eq_true rfl) rfl (am_hh_set _ _ _ 5 12 _ rfl) ?_
    refine ax_s (pc' := 8) (st' := [.int (-1000010)]) rfl rfl rfl rfl ?_
    refine ax_s (pc' := 9) (st' := [.int 3, .int (-1000010)]) rfl rfl rfl rfl ?_
    refine ax_s (pc' := 10) (st' := [.int (-1000013)]) rfl rfl rfl rfl ?_
    refine ax_r rfl rfl rfl ?_
    show am_ex (d + 4) 133 44 [some (.ref 5), some (.int (nI j)), some (.int 4)] [.int (-1000013)] (am_hh X (am_u S 5 12 3) L) _
    refine ax_r rfl rfl rfl ?_
    exact k2 c1
theorem wm_as_2_4 {d : Nat} {X : Nat × (Nat → Int32)} {S : Nat → Nat → Int32} {L : Nat → Int64} {j : Nat} {Q : Option Value → am_H → Prop} (hk : S 290 j = 2) (hj : j < 6)  (x1 : ¬ (nI j) < 0 ∧ ¬ (S 285 7) - 1 < (nI j) → j < 6) (k1 : ¬ (¬ (nI j) < 0 ∧ ¬ (S 285 7) - 1 < (nI j)) → Q (some (.int (-1000001))) (am_hh X S L)) (k2 : ¬ (nI j) < 0 ∧ ¬ (S 285 7) - 1 < (nI j) → Q (some (.int (-1000013))) (am_hh X (am_u S 285 3 3) L)) : am_mt (d + 4) 222 [.ref 285, .int (nI j), .int 4] (am_hh X S L) Q := by
  refine ax_in (ls := [some (.ref 285), some (.int (nI j)), some (.int 4)]) rfl ?_
  refine ax_s (pc' := 1) (st' := [.ref 285]) rfl rfl rfl rfl ?_
  refine ax_s (pc' := 2) (st' := [.int (nI j), .ref 285]) rfl rfl rfl rfl ?_
  refine ax_call (vs := [.ref 285, .int (nI j)]) (rr := []) rfl rfl rfl ?_
  refine mt_isParty  ?_
  show am_ex (d + 4) 222 5 [some (.ref 285), some (.int (nI j)), some (.int 4)] [.int (bI (decide (¬ (nI j) < 0 ∧ ¬ (S 285 7) - 1 < (nI j))))] (am_hh X S L) _
  refine ax_pF rfl (fun c1 => ?_) (fun c1 => ?_)
  · refine ax_s (pc' := 19) (st' := [.int (-1000001)]) rfl rfl rfl rfl ?_
    refine ax_r rfl rfl rfl ?_
    exact k1 c1
  · refine ax_s (pc' := 9) (st' := [.int 4]) rfl rfl rfl rfl ?_
    refine ax_s (pc' := 10) (st' := [.int 0, .int 4]) rfl rfl rfl rfl ?_
    refine ax_s (pc' := 11) (st' := [.int 5, .int 0, .int 4]) rfl rfl rfl rfl ?_
    refine ax_call (vs := [.int 4, .int 0, .int 5]) (rr := []) rfl rfl rfl ?_
    refine mt_in ?_
    show am_ex (d + 4) 222 14 [some (.ref 285), some (.int (nI j)), some (.int 4)] [.int 1] (am_hh X S L) _
    refine ax_if_ne rfl (fun c2 => ?_) (fun c2 => False.elim (by revert c2; decide))
    refine ax_s (pc' := 21) (st' := [.ref 285]) rfl rfl rfl rfl ?_
    refine ax_s (pc' := 22) (st' := [.int (nI j), .ref 285]) rfl rfl rfl rfl ?_
    refine ax_s (pc' := 23) (st' := [.int 4, .int (nI j), .ref 285]) rfl rfl rfl rfl ?_
    refine ax_call (vs := [.ref 285, .int (nI j), .int 4]) (rr := []) rfl rfl rfl ?_
    refine ax_in (ls := [some (.ref 285), some (.int (nI j)), some (.int 4), none]) rfl ?_
    refine ax_s (pc' := 1) (st' := [.ref 285]) rfl rfl rfl rfl ?_
    refine ax_get rfl (hh_285 _ _ _) rfl rfl rfl ?_
    show am_ex (d + 3) 223 4 [some (.ref 285), some (.int (nI j)), some (.int 4), none] [.ref 290] (am_hh X S L) _
    refine ax_s (pc' := 5) (st' := [.int (nI j), .ref 290]) rfl rfl rfl rfl ?_
    refine ax_ald (j := j) (v := 2) rfl (hh_290 _ _ _) rfl rfl (x1 c1) (by decide) hk ?_
    refine ax_s (pc' := 7) (ls' := [some (.ref 285), some (.int (nI j)), some (.int 4), some (.int 2)]) (st' := []) rfl rfl rfl rfl ?_
    refine ax_s (pc' := 8) (st' := [.int 4]) rfl rfl rfl rfl ?_
    refine ax_if_eq rfl (fun c3 => False.elim (by revert c3; decide)) (fun c3 => ?_)
    refine ax_s (pc' := 12) (st' := [.int 4]) rfl rfl rfl rfl ?_
    refine ax_s (pc' := 13) (st' := [.int 2, .int 4]) rfl rfl rfl rfl ?_
    refine ax_cmp_eq rfl (fun c4 => False.elim (by revert c4; decide)) (fun c4 => ?_)
    refine ax_s (pc' := 17) (st' := [.int 4]) rfl rfl rfl rfl ?_
    refine ax_s (pc' := 18) (st' := [.int 1, .int 4]) rfl rfl rfl rfl ?_
    refine ax_cmp_ne rfl (fun c5 => ?_) (fun c5 => False.elim (by revert c5; decide))
    refine ax_s (pc' := 27) (st' := [.int 4]) rfl rfl rfl rfl ?_
    refine ax_s (pc' := 28) (st' := [.int 4, .int 4]) rfl rfl rfl rfl ?_
    refine ax_cmp_ne rfl (fun c6 => False.elim (by revert c6; decide)) (fun c6 => ?_)
    refine ax_s (pc' := 32) (st' := [.int 2]) rfl rfl rfl rfl ?_
    refine ax_s (pc' := 33) (st' := [.int 5, .int 2]) rfl rfl rfl rfl ?_
    refine ax_cmp_ne rfl (fun c7 => ?_) (fun c7 => False.elim (by revert c7; decide))
    refine ax_s (pc' := 41) (st' := [.int 0]) rfl rfl rfl rfl ?_
    refine ax_rb (b := false) rfl rfl ?_
    show am_ex (d + 4) 222 26 [some (.ref 285), some (.int (nI j)), some (.int 4)] [.int 0] (am_hh X S L) _
    refine ax_if_ne rfl (fun c8 => False.elim (by revert c8; decide)) (fun c8 => ?_)
    refine ax_s (pc' := 30) (st' := [.ref 285]) rfl rfl rfl rfl ?_
    refine ax_s (pc' := 31) (st' := [.int 3, .ref 285]) rfl rfl rfl rfl ?_
    refine ax_call (vs := [.ref 285, .int 3]) (rr := []) rfl rfl rfl ?_
    refine ax_in (ls := [some (.ref 285), some (.int 3)]) rfl ?_
    refine ax_s (pc' := 1) (st' := [.ref 285]) rfl rfl rfl rfl ?_
    refine ax_s (pc' := 2) (st' := [.int 3, .ref 285]) rfl rfl rfl rfl ?_
    refine ax_put rfl (hh_285 _ _ _) rfl rfl (show 3 + 1 ≤ _ from Nat.le_of_ble_eq_true rfl) rfl (am_hh_set _ _ _ 285 3 _ rfl) ?_
    refine ax_s (pc' := 7) (st' := [.int (-1000010)]) rfl rfl rfl rfl ?_
    refine ax_s (pc' := 8) (st' := [.int 3, .int (-1000010)]) rfl rfl rfl rfl ?_
    refine ax_s (pc' := 9) (st' := [.int (-1000013)]) rfl rfl rfl rfl ?_
    refine ax_r rfl rfl rfl ?_
    show am_ex (d + 4) 222 34 [some (.ref 285), some (.int (nI j)), some (.int 4)] [.int (-1000013)] (am_hh X (am_u S 285 3 3) L) _
    refine ax_r rfl rfl rfl ?_
    exact k2 c1
theorem wk_as_2_5 {d : Nat} {X : Nat × (Nat → Int32)} {S : Nat → Nat → Int32} {L : Nat → Int64} {j : Nat} {Q : Option Value → am_H → Prop} (hk : S 22 j = 2) (hj : j < 6)  (x1 : ¬ (nI j) < 0 ∧ ¬ (S 20 4) ≤ (nI j) → j < 6) (k1 : ¬ (¬ (nI j) < 0 ∧ ¬ (S 20 4) ≤ (nI j)) → Q (some (.int (-1000001))) (am_hh X S L)) (k2 : ¬ (nI j) < 0 ∧ ¬ (S 20 4) ≤ (nI j) → Q (some (.int (-1000013))) (am_hh X (am_u S 5 12 3) L)) : am_mt (d + 4) 133 [.ref 5, .int (nI j), .int 5] (am_hh X S L) Q := by
  refine ax_in (ls := [some (.ref 5), some (.int (nI j)), some (.int 5)]) rfl ?_
  refine ax_s (pc' := 1) (st' := [.ref 5]) rfl rfl rfl rfl ?_
  refine ax_get rfl (hh_5 _ _ _) rfl rfl rfl ?_
  show am_ex (d + 4) 133 4 [some (.ref 5), some (.int (nI j)), some (.int 5)] [.ref 20] (am_hh X S L) _
  refine ax_s (pc' := 5) (st' := [.int (nI j), .ref 20]) rfl rfl rfl rfl ?_
  refine ax_call (vs := [.ref 20, .int (nI j)]) (rr := []) rfl rfl rfl ?_
  refine kw (am_hh_sub isW20 X S L) (am_hh_sub isW20 X S L).symm (fun _ => ct_hasParty (am_isW_k isW20 X S L)) ?_
  show am_ex (d + 4) 133 8 [some (.ref 5), some (.int (nI j)), some (.int 5)] [.int (bI (decide (¬ (nI j) < 0 ∧ ¬ (S 20 4) ≤ (nI j))))] (am_hh X S L) _
  refine ax_pF rfl (fun c1 => ?_) (fun c1 => ?_)
  · refine ax_s (pc' := 22) (st' := [.int (-1000001)]) rfl rfl rfl rfl ?_
    refine ax_r rfl rfl rfl ?_
    exact k1 c1
  · refine ax_s (pc' := 12) (st' := [.int 5]) rfl rfl rfl rfl ?_
    refine ax_s (pc' := 13) (st' := [.int 0, .int 5]) rfl rfl rfl rfl ?_
    refine ax_s (pc' := 14) (st' := [.int 5, .int 0, .int 5]) rfl rfl rfl rfl ?_
    refine ax_call (vs := [.int 5, .int 0, .int 5]) (rr := []) rfl rfl rfl ?_
    refine ct_isOutside ?_
    show am_ex (d + 4) 133 17 [some (.ref 5), some (.int (nI j)), some (.int 5)] [.int 0] (am_hh X S L) _
    refine ax_if_eq rfl (fun c2 => ?_) (fun c2 => False.elim (by revert c2; decide))
    refine ax_s (pc' := 24) (st' := [.ref 5]) rfl rfl rfl rfl ?_
    refine ax_get rfl (hh_5 _ _ _) rfl rfl rfl ?_
    show am_ex (d + 4) 133 27 [some (.ref 5), some (.int (nI j)), some (.int 5)] [.ref 20] (am_hh X S L) _
    refine ax_get rfl (hh_20 _ _ _) rfl rfl rfl ?_
    show am_ex (d + 4) 133 30 [some (.ref 5), some (.int (nI j)), some (.int 5)] [.ref 22] (am_hh X S L) _
    refine ax_s (pc' := 31) (st' := [.int (nI j), .ref 22]) rfl rfl rfl rfl ?_
    refine ax_ald (j := j) (v := 2) rfl (hh_22 _ _ _) rfl rfl (x1 c1) (by decide) hk ?_
    refine ax_s (pc' := 33) (st' := [.int 5, .int 2]) rfl rfl rfl rfl ?_
    refine ax_call (vs := [.int 2, .int 5]) (rr := []) rfl rfl rfl ?_
    refine kt_isSuch_2_5 ?_
    show am_ex (d + 4) 133 36 [some (.ref 5), some (.int (nI j)), some (.int 5)] [.int 0] (am_hh X S L) _
    refine ax_if_ne rfl (fun c3 => False.elim (by revert c3; decide)) (fun c3 => ?_)
    refine ax_s (pc' := 40) (st' := [.ref 5]) rfl rfl rfl rfl ?_
    refine ax_s (pc' := 41) (st' := [.int 3, .ref 5]) rfl rfl rfl rfl ?_
    refine ax_call (vs := [.ref 5, .int 3]) (rr := []) rfl rfl rfl ?_
    refine ax_in (ls := [some (.ref 5), some (.int 3)]) rfl ?_
    refine ax_s (pc' := 1) (st' := [.ref 5]) rfl rfl rfl rfl ?_
    refine ax_s (pc' := 2) (st' := [.int 3, .ref 5]) rfl rfl rfl rfl ?_
    refine ax_put rfl (hh_5 _ _ _) rfl rfl (show 12 + 1 ≤ _ from Nat.le_of_ble_eq_true rfl) rfl (am_hh_set _ _ _ 5 12 _ rfl) ?_
    refine ax_s (pc' := 8) (st' := [.int (-1000010)]) rfl rfl rfl rfl ?_
    refine ax_s (pc' := 9) (st' := [.int 3, .int (-1000010)]) rfl rfl rfl rfl ?_
    refine ax_s (pc' := 10) (st' := [.int (-1000013)]) rfl rfl rfl rfl ?_
    refine ax_r rfl rfl rfl ?_
    show am_ex (d + 4) 133 44 [some (.ref 5), some (.int (nI j)), some (.int 5)] [.int (-1000013)] (am_hh X (am_u S 5 12 3) L) _
    refine ax_r rfl rfl rfl ?_
    exact k2 c1
theorem wm_as_2_5 {d : Nat} {X : Nat × (Nat → Int32)} {S : Nat → Nat → Int32} {L : Nat → Int64} {j : Nat} {Q : Option Value → am_H → Prop} (hk : S 290 j = 2) (hj : j < 6)  (x1 : ¬ (nI j) < 0 ∧ ¬ (S 285 7) - 1 < (nI j) → j < 6) (k1 : ¬ (¬ (nI j) < 0 ∧ ¬ (S 285 7) - 1 < (nI j)) → Q (some (.int (-1000001))) (am_hh X S L)) (k2 : ¬ (nI j) < 0 ∧ ¬ (S 285 7) - 1 < (nI j) → Q (some (.int (-1000013))) (am_hh X (am_u S 285 3 3) L)) : am_mt (d + 4) 222 [.ref 285, .int (nI j), .int 5] (am_hh X S L) Q := by
  refine ax_in (ls := [some (.ref 285), some (.int (nI j)), some (.int 5)]) rfl ?_
  refine ax_s (pc' := 1) (st' := [.ref 285]) rfl rfl rfl rfl ?_
  refine ax_s (pc' := 2) (st' := [.int (nI j), .ref 285]) rfl rfl rfl rfl ?_
  refine ax_call (vs := [.ref 285, .int (nI j)]) (rr := []) rfl rfl rfl ?_
  refine mt_isParty  ?_
  show am_ex (d + 4) 222 5 [some (.ref 285), some (.int (nI j)), some (.int 5)] [.int (bI (decide (¬ (nI j) < 0 ∧ ¬ (S 285 7) - 1 < (nI j))))] (am_hh X S L) _
  refine ax_pF rfl (fun c1 => ?_) (fun c1 => ?_)
  · refine ax_s (pc' := 19) (st' := [.int (-1000001)]) rfl rfl rfl rfl ?_
    refine ax_r rfl rfl rfl ?_
    exact k1 c1
  · refine ax_s (pc' := 9) (st' := [.int 5]) rfl rfl rfl rfl ?_
    refine ax_s (pc' := 10) (st' := [.int 0, .int 5]) rfl rfl rfl rfl ?_
    refine ax_s (pc' := 11) (st' := [.int 5, .int 0, .int 5]) rfl rfl rfl rfl ?_
    refine ax_call (vs := [.int 5, .int 0, .int 5]) (rr := []) rfl rfl rfl ?_
    refine mt_in ?_
    show am_ex (d + 4) 222 14 [some (.ref 285), some (.int (nI j)), some (.int 5)] [.int 1] (am_hh X S L) _
    refine ax_if_ne rfl (fun c2 => ?_) (fun c2 => False.elim (by revert c2; decide))
    refine ax_s (pc' := 21) (st' := [.ref 285]) rfl rfl rfl rfl ?_
    refine ax_s (pc' := 22) (st' := [.int (nI j), .ref 285]) rfl rfl rfl rfl ?_
    refine ax_s (pc' := 23) (st' := [.int 5, .int (nI j), .ref 285]) rfl rfl rfl rfl ?_
    refine ax_call (vs := [.ref 285, .int (nI j), .int 5]) (rr := []) rfl rfl rfl ?_
    refine ax_in (ls := [some (.ref 285), some (.int (nI j)), some (.int 5), none]) rfl ?_
    refine ax_s (pc' := 1) (st' := [.ref 285]) rfl rfl rfl rfl ?_
    refine ax_get rfl (hh_285 _ _ _) rfl rfl rfl ?_
    show am_ex (d + 3) 223 4 [some (.ref 285), some (.int (nI j)), some (.int 5), none] [.ref 290] (am_hh X S L) _
    refine ax_s (pc' := 5) (st' := [.int (nI j), .ref 290]) rfl rfl rfl rfl ?_
    refine ax_ald (j := j) (v := 2) rfl (hh_290 _ _ _) rfl rfl (x1 c1) (by decide) hk ?_
    refine ax_s (pc' := 7) (ls' := [some (.ref 285), some (.int (nI j)), some (.int 5), some (.int 2)]) (st' := []) rfl rfl rfl rfl ?_
    refine ax_s (pc' := 8) (st' := [.int 5]) rfl rfl rfl rfl ?_
    refine ax_if_eq rfl (fun c3 => False.elim (by revert c3; decide)) (fun c3 => ?_)
    refine ax_s (pc' := 12) (st' := [.int 5]) rfl rfl rfl rfl ?_
    refine ax_s (pc' := 13) (st' := [.int 2, .int 5]) rfl rfl rfl rfl ?_
    refine ax_cmp_eq rfl (fun c4 => False.elim (by revert c4; decide)) (fun c4 => ?_)
    refine ax_s (pc' := 17) (st' := [.int 5]) rfl rfl rfl rfl ?_
    refine ax_s (pc' := 18) (st' := [.int 1, .int 5]) rfl rfl rfl rfl ?_
    refine ax_cmp_ne rfl (fun c5 => ?_) (fun c5 => False.elim (by revert c5; decide))
    refine ax_s (pc' := 27) (st' := [.int 5]) rfl rfl rfl rfl ?_
    refine ax_s (pc' := 28) (st' := [.int 4, .int 5]) rfl rfl rfl rfl ?_
    refine ax_cmp_ne rfl (fun c6 => ?_) (fun c6 => False.elim (by revert c6; decide))
    refine ax_s (pc' := 41) (st' := [.int 0]) rfl rfl rfl rfl ?_
    refine ax_rb (b := false) rfl rfl ?_
    show am_ex (d + 4) 222 26 [some (.ref 285), some (.int (nI j)), some (.int 5)] [.int 0] (am_hh X S L) _
    refine ax_if_ne rfl (fun c7 => False.elim (by revert c7; decide)) (fun c7 => ?_)
    refine ax_s (pc' := 30) (st' := [.ref 285]) rfl rfl rfl rfl ?_
    refine ax_s (pc' := 31) (st' := [.int 3, .ref 285]) rfl rfl rfl rfl ?_
    refine ax_call (vs := [.ref 285, .int 3]) (rr := []) rfl rfl rfl ?_
    refine ax_in (ls := [some (.ref 285), some (.int 3)]) rfl ?_
    refine ax_s (pc' := 1) (st' := [.ref 285]) rfl rfl rfl rfl ?_
    refine ax_s (pc' := 2) (st' := [.int 3, .ref 285]) rfl rfl rfl rfl ?_
    refine ax_put rfl (hh_285 _ _ _) rfl rfl (show 3 + 1 ≤ _ from Nat.le_of_ble_eq_true rfl) rfl (am_hh_set _ _ _ 285 3 _ rfl) ?_
    refine ax_s (pc' := 7) (st' := [.int (-1000010)]) rfl rfl rfl rfl ?_
    refine ax_s (pc' := 8) (st' := [.int 3, .int (-1000010)]) rfl rfl rfl rfl ?_
    refine ax_s (pc' := 9) (st' := [.int (-1000013)]) rfl rfl rfl rfl ?_
    refine ax_r rfl rfl rfl ?_
    show am_ex (d + 4) 222 34 [some (.ref 285), some (.int (nI j)), some (.int 5)] [.int (-1000013)] (am_hh X (am_u S 285 3 3) L) _
    refine ax_r rfl rfl rfl ?_
    exact k2 c1
theorem wk_as_3_0 {d : Nat} {X : Nat × (Nat → Int32)} {S : Nat → Nat → Int32} {L : Nat → Int64} {j : Nat} {Q : Option Value → am_H → Prop} (hk : S 22 j = 3) (hj : j < 6)  (x1 : ¬ (nI j) < 0 ∧ ¬ (S 20 4) ≤ (nI j) → j < 6) (k1 : ¬ (¬ (nI j) < 0 ∧ ¬ (S 20 4) ≤ (nI j)) → Q (some (.int (-1000001))) (am_hh X S L)) (k2 : ¬ (nI j) < 0 ∧ ¬ (S 20 4) ≤ (nI j) → Q (some (.int (nI j))) (am_hh X (am_u S 5 12 0) L)) : am_mt (d + 4) 133 [.ref 5, .int (nI j), .int 0] (am_hh X S L) Q := by
  refine ax_in (ls := [some (.ref 5), some (.int (nI j)), some (.int 0)]) rfl ?_
  refine ax_s (pc' := 1) (st' := [.ref 5]) rfl rfl rfl rfl ?_
  refine ax_get rfl (hh_5 _ _ _) rfl rfl rfl ?_
  show am_ex (d + 4) 133 4 [some (.ref 5), some (.int (nI j)), some (.int 0)] [.ref 20] (am_hh X S L) _
  refine ax_s (pc' := 5) (st' := [.int (nI j), .ref 20]) rfl rfl rfl rfl ?_
  refine ax_call (vs := [.ref 20, .int (nI j)]) (rr := []) rfl rfl rfl ?_
  refine kw (am_hh_sub isW20 X S L) (am_hh_sub isW20 X S L).symm (fun _ => ct_hasParty (am_isW_k isW20 X S L)) ?_
  show am_ex (d + 4) 133 8 [some (.ref 5), some (.int (nI j)), some (.int 0)] [.int (bI (decide (¬ (nI j) < 0 ∧ ¬ (S 20 4) ≤ (nI j))))] (am_hh X S L) _
  refine ax_pF rfl (fun c1 => ?_) (fun c1 => ?_)
  · refine ax_s (pc' := 22) (st' := [.int (-1000001)]) rfl rfl rfl rfl ?_
    refine ax_r rfl rfl rfl ?_
    exact k1 c1
  · refine ax_s (pc' := 12) (st' := [.int 0]) rfl rfl rfl rfl ?_
    refine ax_s (pc' := 13) (st' := [.int 0, .int 0]) rfl rfl rfl rfl ?_
    refine ax_s (pc' := 14) (st' := [.int 5, .int 0, .int 0]) rfl rfl rfl rfl ?_
    refine ax_call (vs := [.int 0, .int 0, .int 5]) (rr := []) rfl rfl rfl ?_
    refine ct_isOutside ?_
    show am_ex (d + 4) 133 17 [some (.ref 5), some (.int (nI j)), some (.int 0)] [.int 0] (am_hh X S L) _
    refine ax_if_eq rfl (fun c2 => ?_) (fun c2 => False.elim (by revert c2; decide))
    refine ax_s (pc' := 24) (st' := [.ref 5]) rfl rfl rfl rfl ?_
    refine ax_get rfl (hh_5 _ _ _) rfl rfl rfl ?_
    show am_ex (d + 4) 133 27 [some (.ref 5), some (.int (nI j)), some (.int 0)] [.ref 20] (am_hh X S L) _
    refine ax_get rfl (hh_20 _ _ _) rfl rfl rfl ?_
    show am_ex (d + 4) 133 30 [some (.ref 5), some (.int (nI j)), some (.int 0)] [.ref 22] (am_hh X S L) _
    refine ax_s (pc' := 31) (st' := [.int (nI j), .ref 22]) rfl rfl rfl rfl ?_
    refine ax_ald (j := j) (v := 3) rfl (hh_22 _ _ _) rfl rfl (x1 c1) (by decide) hk ?_
    refine ax_s (pc' := 33) (st' := [.int 0, .int 3]) rfl rfl rfl rfl ?_
    refine ax_call (vs := [.int 3, .int 0]) (rr := []) rfl rfl rfl ?_
    refine kt_isSuch_3_0 ?_
    show am_ex (d + 4) 133 36 [some (.ref 5), some (.int (nI j)), some (.int 0)] [.int 1] (am_hh X S L) _
    refine ax_if_ne rfl (fun c3 => ?_) (fun c3 => False.elim (by revert c3; decide))
    refine ax_s (pc' := 46) (st' := [.ref 5]) rfl rfl rfl rfl ?_
    refine ax_s (pc' := 47) (st' := [.int (nI j), .ref 5]) rfl rfl rfl rfl ?_
    refine ax_call (vs := [.ref 5, .int (nI j)]) (rr := []) rfl rfl rfl ?_
    refine ax_in (ls := [some (.ref 5), some (.int (nI j))]) rfl ?_
    refine ax_s (pc' := 1) (st' := [.ref 5]) rfl rfl rfl rfl ?_
    refine ax_s (pc' := 2) (st' := [.int 0, .ref 5]) rfl rfl rfl rfl ?_
    refine ax_put rfl (hh_5 _ _ _) rfl rfl (show 12 + 1 ≤ _ from Nat.le_of_ble_eq_true rfl) rfl (am_hh_set _ _ _ 5 12 _ rfl) ?_
    refine ax_s (pc' := 6) (st' := [.int (nI j)]) rfl rfl rfl rfl ?_
    refine ax_r rfl rfl rfl ?_
    show am_ex (d + 4) 133 50 [some (.ref 5), some (.int (nI j)), some (.int 0)] [.int (nI j)] (am_hh X (am_u S 5 12 0) L) _
    refine ax_r rfl rfl rfl ?_
    exact k2 c1
theorem wm_as_3_0 {d : Nat} {X : Nat × (Nat → Int32)} {S : Nat → Nat → Int32} {L : Nat → Int64} {j : Nat} {Q : Option Value → am_H → Prop} (hk : S 290 j = 3) (hj : j < 6)  (x1 : ¬ (nI j) < 0 ∧ ¬ (S 285 7) - 1 < (nI j) → j < 6) (k1 : ¬ (¬ (nI j) < 0 ∧ ¬ (S 285 7) - 1 < (nI j)) → Q (some (.int (-1000001))) (am_hh X S L)) (k2 : ¬ (nI j) < 0 ∧ ¬ (S 285 7) - 1 < (nI j) → Q (some (.int (nI j))) (am_hh X (am_u S 285 3 0) L)) : am_mt (d + 4) 222 [.ref 285, .int (nI j), .int 0] (am_hh X S L) Q := by
  refine ax_in (ls := [some (.ref 285), some (.int (nI j)), some (.int 0)]) rfl ?_
  refine ax_s (pc' := 1) (st' := [.ref 285]) rfl rfl rfl rfl ?_
  refine ax_s (pc' := 2) (st' := [.int (nI j), .ref 285]) rfl rfl rfl rfl ?_
  refine ax_call (vs := [.ref 285, .int (nI j)]) (rr := []) rfl rfl rfl ?_
  refine mt_isParty  ?_
  show am_ex (d + 4) 222 5 [some (.ref 285), some (.int (nI j)), some (.int 0)] [.int (bI (decide (¬ (nI j) < 0 ∧ ¬ (S 285 7) - 1 < (nI j))))] (am_hh X S L) _
  refine ax_pF rfl (fun c1 => ?_) (fun c1 => ?_)
  · refine ax_s (pc' := 19) (st' := [.int (-1000001)]) rfl rfl rfl rfl ?_
    refine ax_r rfl rfl rfl ?_
    exact k1 c1
  · refine ax_s (pc' := 9) (st' := [.int 0]) rfl rfl rfl rfl ?_
    refine ax_s (pc' := 10) (st' := [.int 0, .int 0]) rfl rfl rfl rfl ?_
    refine ax_s (pc' := 11) (st' := [.int 5, .int 0, .int 0]) rfl rfl rfl rfl ?_
    refine ax_call (vs := [.int 0, .int 0, .int 5]) (rr := []) rfl rfl rfl ?_
    refine mt_in ?_
    show am_ex (d + 4) 222 14 [some (.ref 285), some (.int (nI j)), some (.int 0)] [.int 1] (am_hh X S L) _
    refine ax_if_ne rfl (fun c2 => ?_) (fun c2 => False.elim (by revert c2; decide))
    refine ax_s (pc' := 21) (st' := [.ref 285]) rfl rfl rfl rfl ?_
    refine ax_s (pc' := 22) (st' := [.int (nI j), .ref 285]) rfl rfl rfl rfl ?_
    refine ax_s (pc' := 23) (st' := [.int 0, .int (nI j), .ref 285]) rfl rfl rfl rfl ?_
    refine ax_call (vs := [.ref 285, .int (nI j), .int 0]) (rr := []) rfl rfl rfl ?_
    refine ax_in (ls := [some (.ref 285), some (.int (nI j)), some (.int 0), none]) rfl ?_
    refine ax_s (pc' := 1) (st' := [.ref 285]) rfl rfl rfl rfl ?_
    refine ax_get rfl (hh_285 _ _ _) rfl rfl rfl ?_
    show am_ex (d + 3) 223 4 [some (.ref 285), some (.int (nI j)), some (.int 0), none] [.ref 290] (am_hh X S L) _
    refine ax_s (pc' := 5) (st' := [.int (nI j), .ref 290]) rfl rfl rfl rfl ?_
    refine ax_ald (j := j) (v := 3) rfl (hh_290 _ _ _) rfl rfl (x1 c1) (by decide) hk ?_
    refine ax_s (pc' := 7) (ls' := [some (.ref 285), some (.int (nI j)), some (.int 0), some (.int 3)]) (st' := []) rfl rfl rfl rfl ?_
    refine ax_s (pc' := 8) (st' := [.int 0]) rfl rfl rfl rfl ?_
    refine ax_if_eq rfl (fun c3 => ?_) (fun c3 => False.elim (by revert c3; decide))
    refine ax_s (pc' := 37) (st' := [.int 1]) rfl rfl rfl rfl ?_
    refine ax_s (pc' := 41) (st' := [.int 1]) rfl rfl rfl rfl ?_
    refine ax_rb (b := true) rfl rfl ?_
    show am_ex (d + 4) 222 26 [some (.ref 285), some (.int (nI j)), some (.int 0)] [.int 1] (am_hh X S L) _
    refine ax_if_ne rfl (fun c4 => ?_) (fun c4 => False.elim (by revert c4; decide))
    refine ax_s (pc' := 36) (st' := [.ref 285]) rfl rfl rfl rfl ?_
    refine ax_s (pc' := 37) (st' := [.int 0, .ref 285]) rfl rfl rfl rfl ?_
    refine ax_put rfl (hh_285 _ _ _) rfl rfl (show 3 + 1 ≤ _ from Nat.le_of_ble_eq_true rfl) rfl (am_hh_set _ _ _ 285 3 _ rfl) ?_
    refine ax_s (pc' := 41) (st' := [.int (nI j)]) rfl rfl rfl rfl ?_
    refine ax_r rfl rfl rfl ?_
    exact k2 c1
theorem wk_as_3_1 {d : Nat} {X : Nat × (Nat → Int32)} {S : Nat → Nat → Int32} {L : Nat → Int64} {j : Nat} {Q : Option Value → am_H → Prop} (hk : S 22 j = 3) (hj : j < 6)  (x1 : ¬ (nI j) < 0 ∧ ¬ (S 20 4) ≤ (nI j) → j < 6) (k1 : ¬ (¬ (nI j) < 0 ∧ ¬ (S 20 4) ≤ (nI j)) → Q (some (.int (-1000001))) (am_hh X S L)) (k2 : ¬ (nI j) < 0 ∧ ¬ (S 20 4) ≤ (nI j) → Q (some (.int (nI j))) (am_hh X (am_u S 5 12 0) L)) : am_mt (d + 4) 133 [.ref 5, .int (nI j), .int 1] (am_hh X S L) Q := by
  refine ax_in (ls := [some (.ref 5), some (.int (nI j)), some (.int 1)]) rfl ?_
  refine ax_s (pc' := 1) (st' := [.ref 5]) rfl rfl rfl rfl ?_
  refine ax_get rfl (hh_5 _ _ _) rfl rfl rfl ?_
  show am_ex (d + 4) 133 4 [some (.ref 5), some (.int (nI j)), some (.int 1)] [.ref 20] (am_hh X S L) _
  refine ax_s (pc' := 5) (st' := [.int (nI j), .ref 20]) rfl rfl rfl rfl ?_
  refine ax_call (vs := [.ref 20, .int (nI j)]) (rr := []) rfl rfl rfl ?_
  refine kw (am_hh_sub isW20 X S L) (am_hh_sub isW20 X S L).symm (fun _ => ct_hasParty (am_isW_k isW20 X S L)) ?_
  show am_ex (d + 4) 133 8 [some (.ref 5), some (.int (nI j)), some (.int 1)] [.int (bI (decide (¬ (nI j) < 0 ∧ ¬ (S 20 4) ≤ (nI j))))] (am_hh X S L) _
  refine ax_pF rfl (fun c1 => ?_) (fun c1 => ?_)
  · refine ax_s (pc' := 22) (st' := [.int (-1000001)]) rfl rfl rfl rfl ?_
    refine ax_r rfl rfl rfl ?_
    exact k1 c1
  · refine ax_s (pc' := 12) (st' := [.int 1]) rfl rfl rfl rfl ?_
    refine ax_s (pc' := 13) (st' := [.int 0, .int 1]) rfl rfl rfl rfl ?_
    refine ax_s (pc' := 14) (st' := [.int 5, .int 0, .int 1]) rfl rfl rfl rfl ?_
    refine ax_call (vs := [.int 1, .int 0, .int 5]) (rr := []) rfl rfl rfl ?_
    refine ct_isOutside ?_
    show am_ex (d + 4) 133 17 [some (.ref 5), some (.int (nI j)), some (.int 1)] [.int 0] (am_hh X S L) _
    refine ax_if_eq rfl (fun c2 => ?_) (fun c2 => False.elim (by revert c2; decide))
    refine ax_s (pc' := 24) (st' := [.ref 5]) rfl rfl rfl rfl ?_
    refine ax_get rfl (hh_5 _ _ _) rfl rfl rfl ?_
    show am_ex (d + 4) 133 27 [some (.ref 5), some (.int (nI j)), some (.int 1)] [.ref 20] (am_hh X S L) _
    refine ax_get rfl (hh_20 _ _ _) rfl rfl rfl ?_
    show am_ex (d + 4) 133 30 [some (.ref 5), some (.int (nI j)), some (.int 1)] [.ref 22] (am_hh X S L) _
    refine ax_s (pc' := 31) (st' := [.int (nI j), .ref 22]) rfl rfl rfl rfl ?_
    refine ax_ald (j := j) (v := 3) rfl (hh_22 _ _ _) rfl rfl (x1 c1) (by decide) hk ?_
    refine ax_s (pc' := 33) (st' := [.int 1, .int 3]) rfl rfl rfl rfl ?_
    refine ax_call (vs := [.int 3, .int 1]) (rr := []) rfl rfl rfl ?_
    refine kt_isSuch_3_1 ?_
    show am_ex (d + 4) 133 36 [some (.ref 5), some (.int (nI j)), some (.int 1)] [.int 1] (am_hh X S L) _
    refine ax_if_ne rfl (fun c3 => ?_) (fun c3 => False.elim (by revert c3; decide))
    refine ax_s (pc' := 46) (st' := [.ref 5]) rfl rfl rfl rfl ?_
    refine ax_s (pc' := 47) (st' := [.int (nI j), .ref 5]) rfl rfl rfl rfl ?_
    refine ax_call (vs := [.ref 5, .int (nI j)]) (rr := []) rfl rfl rfl ?_
    refine ax_in (ls := [some (.ref 5), some (.int (nI j))]) rfl ?_
    refine ax_s (pc' := 1) (st' := [.ref 5]) rfl rfl rfl rfl ?_
    refine ax_s (pc' := 2) (st' := [.int 0, .ref 5]) rfl rfl rfl rfl ?_
    refine ax_put rfl (hh_5 _ _ _) rfl rfl (show 12 + 1 ≤ _ from Nat.le_of_ble_eq_true rfl) rfl (am_hh_set _ _ _ 5 12 _ rfl) ?_
    refine ax_s (pc' := 6) (st' := [.int (nI j)]) rfl rfl rfl rfl ?_
    refine ax_r rfl rfl rfl ?_
    show am_ex (d + 4) 133 50 [some (.ref 5), some (.int (nI j)), some (.int 1)] [.int (nI j)] (am_hh X (am_u S 5 12 0) L) _
    refine ax_r rfl rfl rfl ?_
    exact k2 c1
theorem wm_as_3_1 {d : Nat} {X : Nat × (Nat → Int32)} {S : Nat → Nat → Int32} {L : Nat → Int64} {j : Nat} {Q : Option Value → am_H → Prop} (hk : S 290 j = 3) (hj : j < 6)  (x1 : ¬ (nI j) < 0 ∧ ¬ (S 285 7) - 1 < (nI j) → j < 6) (k1 : ¬ (¬ (nI j) < 0 ∧ ¬ (S 285 7) - 1 < (nI j)) → Q (some (.int (-1000001))) (am_hh X S L)) (k2 : ¬ (nI j) < 0 ∧ ¬ (S 285 7) - 1 < (nI j) → Q (some (.int (nI j))) (am_hh X (am_u S 285 3 0) L)) : am_mt (d + 4) 222 [.ref 285, .int (nI j), .int 1] (am_hh X S L) Q := by
  refine ax_in (ls := [some (.ref 285), some (.int (nI j)), some (.int 1)]) rfl ?_
  refine ax_s (pc' := 1) (st' := [.ref 285]) rfl rfl rfl rfl ?_
  refine ax_s (pc' := 2) (st' := [.int (nI j), .ref 285]) rfl rfl rfl rfl ?_
  refine ax_call (vs := [.ref 285, .int (nI j)]) (rr := []) rfl rfl rfl ?_
  refine mt_isParty  ?_
  show am_ex (d + 4) 222 5 [some (.ref 285), some (.int (nI j)), some (.int 1)] [.int (bI (decide (¬ (nI j) < 0 ∧ ¬ (S 285 7) - 1 < (nI j))))] (am_hh X S L) _
  refine ax_pF rfl (fun c1 => ?_) (fun c1 => ?_)
  · refine ax_s (pc' := 19) (st' := [.int (-1000001)]) rfl rfl rfl rfl ?_
    refine ax_r rfl rfl rfl ?_
    exact k1 c1
  · refine ax_s (pc' := 9) (st' := [.int 1]) rfl rfl rfl rfl ?_
    refine ax_s (pc' := 10) (st' := [.int 0, .int 1]) rfl rfl rfl rfl ?_
    refine ax_s (pc' := 11) (st' := [.int 5, .int 0, .int 1]) rfl rfl rfl rfl ?_
    refine ax_call (vs := [.int 1, .int 0, .int 5]) (rr := []) rfl rfl rfl ?_
    refine mt_in ?_
    show am_ex (d + 4) 222 14 [some (.ref 285), some (.int (nI j)), some (.int 1)] [.int 1] (am_hh X S L) _
    refine ax_if_ne rfl (fun c2 => ?_) (fun c2 => False.elim (by revert c2; decide))
    refine ax_s (pc' := 21) (st' := [.ref 285]) rfl rfl rfl rfl ?_
    refine ax_s (pc' := 22) (st' := [.int (nI j), .ref 285]) rfl rfl rfl rfl ?_
    refine ax_s (pc' := 23) (st' := [.int 1, .int (nI j), .ref 285]) rfl rfl rfl rfl ?_
    refine ax_call (vs := [.ref 285, .int (nI j), .int 1]) (rr := []) rfl rfl rfl ?_
    refine ax_in (ls := [some (.ref 285), some (.int (nI j)), some (.int 1), none]) rfl ?_
    refine ax_s (pc' := 1) (st' := [.ref 285]) rfl rfl rfl rfl ?_
    refine ax_get rfl (hh_285 _ _ _) rfl rfl rfl ?_
    show am_ex (d + 3) 223 4 [some (.ref 285), some (.int (nI j)), some (.int 1), none] [.ref 290] (am_hh X S L) _
    refine ax_s (pc' := 5) (st' := [.int (nI j), .ref 290]) rfl rfl rfl rfl ?_
    refine ax_ald (j := j) (v := 3) rfl (hh_290 _ _ _) rfl rfl (x1 c1) (by decide) hk ?_
    refine ax_s (pc' := 7) (ls' := [some (.ref 285), some (.int (nI j)), some (.int 1), some (.int 3)]) (st' := []) rfl rfl rfl rfl ?_
    refine ax_s (pc' := 8) (st' := [.int 1]) rfl rfl rfl rfl ?_
    refine ax_if_eq rfl (fun c3 => False.elim (by revert c3; decide)) (fun c3 => ?_)
    refine ax_s (pc' := 12) (st' := [.int 1]) rfl rfl rfl rfl ?_
    refine ax_s (pc' := 13) (st' := [.int 3, .int 1]) rfl rfl rfl rfl ?_
    refine ax_cmp_eq rfl (fun c4 => False.elim (by revert c4; decide)) (fun c4 => ?_)
    refine ax_s (pc' := 17) (st' := [.int 1]) rfl rfl rfl rfl ?_
    refine ax_s (pc' := 18) (st' := [.int 1, .int 1]) rfl rfl rfl rfl ?_
    refine ax_cmp_ne rfl (fun c5 => False.elim (by revert c5; decide)) (fun c5 => ?_)
    refine ax_s (pc' := 22) (st' := [.int 3]) rfl rfl rfl rfl ?_
    refine ax_s (pc' := 23) (st' := [.int 4, .int 3]) rfl rfl rfl rfl ?_
    refine ax_cmp_lt rfl (fun c6 => ?_) (fun c6 => False.elim (by revert c6; decide))
    refine ax_s (pc' := 37) (st' := [.int 1]) rfl rfl rfl rfl ?_
    refine ax_s (pc' := 41) (st' := [.int 1]) rfl rfl rfl rfl ?_
    refine ax_rb (b := true) rfl rfl ?_
    show am_ex (d + 4) 222 26 [some (.ref 285), some (.int (nI j)), some (.int 1)] [.int 1] (am_hh X S L) _
    refine ax_if_ne rfl (fun c7 => ?_) (fun c7 => False.elim (by revert c7; decide))
    refine ax_s (pc' := 36) (st' := [.ref 285]) rfl rfl rfl rfl ?_
    refine ax_s (pc' := 37) (st' := [.int 0, .ref 285]) rfl rfl rfl rfl ?_
    refine ax_put rfl (hh_285 _ _ _) rfl rfl (show 3 + 1 ≤ _ from Nat.le_of_ble_eq_true rfl) rfl (am_hh_set _ _ _ 285 3 _ rfl) ?_
    refine ax_s (pc' := 41) (st' := [.int (nI j)]) rfl rfl rfl rfl ?_
    refine ax_r rfl rfl rfl ?_
    exact k2 c1
theorem wk_as_3_2 {d : Nat} {X : Nat × (Nat → Int32)} {S : Nat → Nat → Int32} {L : Nat → Int64} {j : Nat} {Q : Option Value → am_H → Prop} (hk : S 22 j = 3) (hj : j < 6)  (x1 : ¬ (nI j) < 0 ∧ ¬ (S 20 4) ≤ (nI j) → j < 6) (k1 : ¬ (¬ (nI j) < 0 ∧ ¬ (S 20 4) ≤ (nI j)) → Q (some (.int (-1000001))) (am_hh X S L)) (k2 : ¬ (nI j) < 0 ∧ ¬ (S 20 4) ≤ (nI j) → Q (some (.int (-1000013))) (am_hh X (am_u S 5 12 3) L)) : am_mt (d + 4) 133 [.ref 5, .int (nI j), .int 2] (am_hh X S L) Q := by
  refine ax_in (ls := [some (.ref 5), some (.int (nI j)), some (.int 2)]) rfl ?_
  refine ax_s (pc' := 1) (st' := [.ref 5]) rfl rfl rfl rfl ?_
  refine ax_get rfl (hh_5 _ _ _) rfl rfl rfl ?_
  show am_ex (d + 4) 133 4 [some (.ref 5), some (.int (nI j)), some (.int 2)] [.ref 20] (am_hh X S L) _
  refine ax_s (pc' := 5) (st' := [.int (nI j), .ref 20]) rfl rfl rfl rfl ?_
  refine ax_call (vs := [.ref 20, .int (nI j)]) (rr := []) rfl rfl rfl ?_
  refine kw (am_hh_sub isW20 X S L) (am_hh_sub isW20 X S L).symm (fun _ => ct_hasParty (am_isW_k isW20 X S L)) ?_
  show am_ex (d + 4) 133 8 [some (.ref 5), some (.int (nI j)), some (.int 2)] [.int (bI (decide (¬ (nI j) < 0 ∧ ¬ (S 20 4) ≤ (nI j))))] (am_hh X S L) _
  refine ax_pF rfl (fun c1 => ?_) (fun c1 => ?_)
  · refine ax_s (pc' := 22) (st' := [.int (-1000001)]) rfl rfl rfl rfl ?_
    refine ax_r rfl rfl rfl ?_
    exact k1 c1
  · refine ax_s (pc' := 12) (st' := [.int 2]) rfl rfl rfl rfl ?_
    refine ax_s (pc' := 13) (st' := [.int 0, .int 2]) rfl rfl rfl rfl ?_
    refine ax_s (pc' := 14) (st' := [.int 5, .int 0, .int 2]) rfl rfl rfl rfl ?_
    refine ax_call (vs := [.int 2, .int 0, .int 5]) (rr := []) rfl rfl rfl ?_
    refine ct_isOutside ?_
    show am_ex (d + 4) 133 17 [some (.ref 5), some (.int (nI j)), some (.int 2)] [.int 0] (am_hh X S L) _
    refine ax_if_eq rfl (fun c2 => ?_) (fun c2 => False.elim (by revert c2; decide))
    refine ax_s (pc' := 24) (st' := [.ref 5]) rfl rfl rfl rfl ?_
    refine ax_get rfl (hh_5 _ _ _) rfl rfl rfl ?_
    show am_ex (d + 4) 133 27 [some (.ref 5), some (.int (nI j)), some (.int 2)] [.ref 20] (am_hh X S L) _
    refine ax_get rfl (hh_20 _ _ _) rfl rfl rfl ?_
    show am_ex (d + 4) 133 30 [some (.ref 5), some (.int (nI j)), some (.int 2)] [.ref 22] (am_hh X S L) _
    refine ax_s (pc' := 31) (st' := [.int (nI j), .ref 22]) rfl rfl rfl rfl ?_
    refine ax_ald (j := j) (v := 3) rfl (hh_22 _ _ _) rfl rfl (x1 c1) (by decide) hk ?_
    refine ax_s (pc' := 33) (st' := [.int 2, .int 3]) rfl rfl rfl rfl ?_
    refine ax_call (vs := [.int 3, .int 2]) (rr := []) rfl rfl rfl ?_
    refine kt_isSuch_3_2 ?_
    show am_ex (d + 4) 133 36 [some (.ref 5), some (.int (nI j)), some (.int 2)] [.int 0] (am_hh X S L) _
    refine ax_if_ne rfl (fun c3 => False.elim (by revert c3; decide)) (fun c3 => ?_)
    refine ax_s (pc' := 40) (st' := [.ref 5]) rfl rfl rfl rfl ?_
    refine ax_s (pc' := 41) (st' := [.int 3, .ref 5]) rfl rfl rfl rfl ?_
    refine ax_call (vs := [.ref 5, .int 3]) (rr := []) rfl rfl rfl ?_
    refine ax_in (ls := [some (.ref 5), some (.int 3)]) rfl ?_
    refine ax_s (pc' := 1) (st' := [.ref 5]) rfl rfl rfl rfl ?_
    refine ax_s (pc' := 2) (st' := [.int 3, .ref 5]) rfl rfl rfl rfl ?_
    refine ax_put rfl (hh_5 _ _ _) rfl rfl (show 12 + 1 ≤ _ from Nat.le_of_ble_eq_true rfl) rfl (am_hh_set _ _ _ 5 12 _ rfl) ?_
    refine ax_s (pc' := 8) (st' := [.int (-1000010)]) rfl rfl rfl rfl ?_
    refine ax_s (pc' := 9) (st' := [.int 3, .int (-1000010)]) rfl rfl rfl rfl ?_
    refine ax_s (pc' := 10) (st' := [.int (-1000013)]) rfl rfl rfl rfl ?_
    refine ax_r rfl rfl rfl ?_
    show am_ex (d + 4) 133 44 [some (.ref 5), some (.int (nI j)), some (.int 2)] [.int (-1000013)] (am_hh X (am_u S 5 12 3) L) _
    refine ax_r rfl rfl rfl ?_
    exact k2 c1
theorem wm_as_3_2 {d : Nat} {X : Nat × (Nat → Int32)} {S : Nat → Nat → Int32} {L : Nat → Int64} {j : Nat} {Q : Option Value → am_H → Prop} (hk : S 290 j = 3) (hj : j < 6)  (x1 : ¬ (nI j) < 0 ∧ ¬ (S 285 7) - 1 < (nI j) → j < 6) (k1 : ¬ (¬ (nI j) < 0 ∧ ¬ (S 285 7) - 1 < (nI j)) → Q (some (.int (-1000001))) (am_hh X S L)) (k2 : ¬ (nI j) < 0 ∧ ¬ (S 285 7) - 1 < (nI j) → Q (some (.int (-1000013))) (am_hh X (am_u S 285 3 3) L)) : am_mt (d + 4) 222 [.ref 285, .int (nI j), .int 2] (am_hh X S L) Q := by
  refine ax_in (ls := [some (.ref 285), some (.int (nI j)), some (.int 2)]) rfl ?_
  refine ax_s (pc' := 1) (st' := [.ref 285]) rfl rfl rfl rfl ?_
  refine ax_s (pc' := 2) (st' := [.int (nI j), .ref 285]) rfl rfl rfl rfl ?_
  refine ax_call (vs := [.ref 285, .int (nI j)]) (rr := []) rfl rfl rfl ?_
  refine mt_isParty  ?_
  show am_ex (d + 4) 222 5 [some (.ref 285), some (.int (nI j)), some (.int 2)] [.int (bI (decide (¬ (nI j) < 0 ∧ ¬ (S 285 7) - 1 < (nI j))))] (am_hh X S L) _
  refine ax_pF rfl (fun c1 => ?_) (fun c1 => ?_)
  · refine ax_s (pc' := 19) (st' := [.int (-1000001)]) rfl rfl rfl rfl ?_
    refine ax_r rfl rfl rfl ?_
    exact k1 c1
  · refine ax_s (pc' := 9) (st' := [.int 2]) rfl rfl rfl rfl ?_
    refine ax_s (pc' := 10) (st' := [.int 0, .int 2]) rfl rfl rfl rfl ?_
    refine ax_s (pc' := 11) (st' := [.int 5, .int 0, .int 2]) rfl rfl rfl rfl ?_
    refine ax_call (vs := [.int 2, .int 0, .int 5]) (rr := []) rfl rfl rfl ?_
    refine mt_in ?_
    show am_ex (d + 4) 222 14 [some (.ref 285), some (.int (nI j)), some (.int 2)] [.int 1] (am_hh X S L) _
    refine ax_if_ne rfl (fun c2 => ?_) (fun c2 => False.elim (by revert c2; decide))
    refine ax_s (pc' := 21) (st' := [.ref 285]) rfl rfl rfl rfl ?_
    refine ax_s (pc' := 22) (st' := [.int (nI j), .ref 285]) rfl rfl rfl rfl ?_
    refine ax_s (pc' := 23) (st' := [.int 2, .int (nI j), .ref 285]) rfl rfl rfl rfl ?_
    refine ax_call (vs := [.ref 285, .int (nI j), .int 2]) (rr := []) rfl rfl rfl ?_
    refine ax_in (ls := [some (.ref 285), some (.int (nI j)), some (.int 2), none]) rfl ?_
    refine ax_s (pc' := 1) (st' := [.ref 285]) rfl rfl rfl rfl ?_
    refine ax_get rfl (hh_285 _ _ _) rfl rfl rfl ?_
    show am_ex (d + 3) 223 4 [some (.ref 285), some (.int (nI j)), some (.int 2), none] [.ref 290] (am_hh X S L) _
    refine ax_s (pc' := 5) (st' := [.int (nI j), .ref 290]) rfl rfl rfl rfl ?_
    refine ax_ald (j := j) (v := 3) rfl (hh_290 _ _ _) rfl rfl (x1 c1) (by decide) hk ?_
    refine ax_s (pc' := 7) (ls' := [some (.ref 285), some (.int (nI j)), some (.int 2), some (.int 3)]) (st' := []) rfl rfl rfl rfl ?_
    refine ax_s (pc' := 8) (st' := [.int 2]) rfl rfl rfl rfl ?_
    refine ax_if_eq rfl (fun c3 => False.elim (by revert c3; decide)) (fun c3 => ?_)
    refine ax_s (pc' := 12) (st' := [.int 2]) rfl rfl rfl rfl ?_
    refine ax_s (pc' := 13) (st' := [.int 3, .int 2]) rfl rfl rfl rfl ?_
    refine ax_cmp_eq rfl (fun c4 => False.elim (by revert c4; decide)) (fun c4 => ?_)
    refine ax_s (pc' := 17) (st' := [.int 2]) rfl rfl rfl rfl ?_
    refine ax_s (pc' := 18) (st' := [.int 1, .int 2]) rfl rfl rfl rfl ?_
    refine ax_cmp_ne rfl (fun c5 => ?_) (fun c5 => False.elim (by revert c5; decide))
    refine ax_s (pc' := 27) (st' := [.int 2]) rfl rfl rfl rfl ?_
    refine ax_s (pc' := 28) (st' := [.int 4, .int 2]) rfl rfl rfl rfl ?_
    refine ax_cmp_ne rfl (fun c6 => ?_) (fun c6 => False.elim (by revert c6; decide))
    refine ax_s (pc' := 41) (st' := [.int 0]) rfl rfl rfl rfl ?_
    refine ax_rb (b := false) rfl rfl ?_
    show am_ex (d + 4) 222 26 [some (.ref 285), some (.int (nI j)), some (.int 2)] [.int 0] (am_hh X S L) _
    refine ax_if_ne rfl (fun c7 => False.elim (by revert c7; decide)) (fun c7 => ?_)
    refine ax_s (pc' := 30) (st' := [.ref 285]) rfl rfl rfl rfl ?_
    refine ax_s (pc' := 31) (st' := [.int 3, .ref 285]) rfl rfl rfl rfl ?_
    refine ax_call (vs := [.ref 285, .int 3]) (rr := []) rfl rfl rfl ?_
    refine ax_in (ls := [some (.ref 285), some (.int 3)]) rfl ?_
    refine ax_s (pc' := 1) (st' := [.ref 285]) rfl rfl rfl rfl ?_
    refine ax_s (pc' := 2) (st' := [.int 3, .ref 285]) rfl rfl rfl rfl ?_
    refine ax_put rfl (hh_285 _ _ _) rfl rfl (show 3 + 1 ≤ _ from Nat.le_of_ble_eq_true rfl) rfl (am_hh_set _ _ _ 285 3 _ rfl) ?_
    refine ax_s (pc' := 7) (st' := [.int (-1000010)]) rfl rfl rfl rfl ?_
    refine ax_s (pc' := 8) (st' := [.int 3, .int (-1000010)]) rfl rfl rfl rfl ?_
    refine ax_s (pc' := 9) (st' := [.int (-1000013)]) rfl rfl rfl rfl ?_
    refine ax_r rfl rfl rfl ?_
    show am_ex (d + 4) 222 34 [some (.ref 285), some (.int (nI j)), some (.int 2)] [.int (-1000013)] (am_hh X (am_u S 285 3 3) L) _
    refine ax_r rfl rfl rfl ?_
    exact k2 c1
theorem wk_as_3_3 {d : Nat} {X : Nat × (Nat → Int32)} {S : Nat → Nat → Int32} {L : Nat → Int64} {j : Nat} {Q : Option Value → am_H → Prop} (hk : S 22 j = 3) (hj : j < 6)  (x1 : ¬ (nI j) < 0 ∧ ¬ (S 20 4) ≤ (nI j) → j < 6) (k1 : ¬ (¬ (nI j) < 0 ∧ ¬ (S 20 4) ≤ (nI j)) → Q (some (.int (-1000001))) (am_hh X S L)) (k2 : ¬ (nI j) < 0 ∧ ¬ (S 20 4) ≤ (nI j) → Q (some (.int (nI j))) (am_hh X (am_u S 5 12 0) L)) : am_mt (d + 4) 133 [.ref 5, .int (nI j), .int 3] (am_hh X S L) Q := by
  refine ax_in (ls := [some (.ref 5), some (.int (nI j)), some (.int 3)]) rfl ?_
  refine ax_s (pc' := 1) (st' := [.ref 5]) rfl rfl rfl rfl ?_
  refine ax_get rfl (hh_5 _ _ _) rfl rfl rfl ?_
  show am_ex (d + 4) 133 4 [some (.ref 5), some (.int (nI j)), some (.int 3)] [.ref 20] (am_hh X S L) _
  refine ax_s (pc' := 5) (st' := [.int (nI j), .ref 20]) rfl rfl rfl rfl ?_
  refine ax_call (vs := [.ref 20, .int (nI j)]) (rr := []) rfl rfl rfl ?_
  refine kw (am_hh_sub isW20 X S L) (am_hh_sub isW20 X S L).symm (fun _ => ct_hasParty (am_isW_k isW20 X S L)) ?_
  show am_ex (d + 4) 133 8 [some (.ref 5), some (.int (nI j)), some (.int 3)] [.int (bI (decide (¬ (nI j) < 0 ∧ ¬ (S 20 4) ≤ (nI j))))] (am_hh X S L) _
  refine ax_pF rfl (fun c1 => ?_) (fun c1 => ?_)
  · refine ax_s (pc' := 22) (st' := [.int (-1000001)]) rfl rfl rfl rfl ?_
    refine ax_r rfl rfl rfl ?_
    exact k1 c1
  · refine ax_s (pc' := 12) (st' := [.int 3]) rfl rfl rfl rfl ?_
    refine ax_s (pc' := 13) (st' := [.int 0, .int 3]) rfl rfl rfl rfl ?_
    refine ax_s (pc' := 14) (st' := [.int 5, .int 0, .int 3]) rfl rfl rfl rfl ?_
    refine ax_call (vs := [.int 3, .int 0, .int 5]) (rr := []) rfl rfl rfl ?_
    refine ct_isOutside ?_
    show am_ex (d + 4) 133 17 [some (.ref 5), some (.int (nI j)), some (.int 3)] [.int 0] (am_hh X S L) _
    refine ax_if_eq rfl (fun c2 => ?_) (fun c2 => False.elim (by revert c2; decide))
    refine ax_s (pc' := 24) (st' := [.ref 5]) rfl rfl rfl rfl ?_
    refine ax_get rfl (hh_5 _ _ _) rfl rfl rfl ?_
    show am_ex (d + 4) 133 27 [some (.ref 5), some (.int (nI j)), some (.int 3)] [.ref 20] (am_hh X S L) _
    refine ax_get rfl (hh_20 _ _ _) rfl rfl rfl ?_
    show am_ex (d + 4) 133 30 [some (.ref 5), some (.int (nI j)), some (.int 3)] [.ref 22] (am_hh X S L) _
    refine ax_s (pc' := 31) (st' := [.int (nI j), .ref 22]) rfl rfl rfl rfl ?_
    refine ax_ald (j := j) (v := 3) rfl (hh_22 _ _ _) rfl rfl (x1 c1) (by decide) hk ?_
    refine ax_s (pc' := 33) (st' := [.int 3, .int 3]) rfl rfl rfl rfl ?_
    refine ax_call (vs := [.int 3, .int 3]) (rr := []) rfl rfl rfl ?_
    refine kt_isSuch_3_3 ?_
    show am_ex (d + 4) 133 36 [some (.ref 5), some (.int (nI j)), some (.int 3)] [.int 1] (am_hh X S L) _
    refine ax_if_ne rfl (fun c3 => ?_) (fun c3 => False.elim (by revert c3; decide))
    refine ax_s (pc' := 46) (st' := [.ref 5]) rfl rfl rfl rfl ?_
    refine ax_s (pc' := 47) (st' := [.int (nI j), .ref 5]) rfl rfl rfl rfl ?_
    refine ax_call (vs := [.ref 5, .int (nI j)]) (rr := []) rfl rfl rfl ?_
    refine ax_in (ls := [some (.ref 5), some (.int (nI j))]) rfl ?_
    refine ax_s (pc' := 1) (st' := [.ref 5]) rfl rfl rfl rfl ?_
    refine ax_s (pc' := 2) (st' := [.int 0, .ref 5]) rfl rfl rfl rfl ?_
    refine ax_put rfl (hh_5 _ _ _) rfl rfl (show 12 + 1 ≤ _ from Nat.le_of_ble_eq_true rfl) rfl (am_hh_set _ _ _ 5 12 _ rfl) ?_
    refine ax_s (pc' := 6) (st' := [.int (nI j)]) rfl rfl rfl rfl ?_
    refine ax_r rfl rfl rfl ?_
    show am_ex (d + 4) 133 50 [some (.ref 5), some (.int (nI j)), some (.int 3)] [.int (nI j)] (am_hh X (am_u S 5 12 0) L) _
    refine ax_r rfl rfl rfl ?_
    exact k2 c1
theorem wm_as_3_3 {d : Nat} {X : Nat × (Nat → Int32)} {S : Nat → Nat → Int32} {L : Nat → Int64} {j : Nat} {Q : Option Value → am_H → Prop} (hk : S 290 j = 3) (hj : j < 6)  (x1 : ¬ (nI j) < 0 ∧ ¬ (S 285 7) - 1 < (nI j) → j < 6) (k1 : ¬ (¬ (nI j) < 0 ∧ ¬ (S 285 7) - 1 < (nI j)) → Q (some (.int (-1000001))) (am_hh X S L)) (k2 : ¬ (nI j) < 0 ∧ ¬ (S 285 7) - 1 < (nI j) → Q (some (.int (nI j))) (am_hh X (am_u S 285 3 0) L)) : am_mt (d + 4) 222 [.ref 285, .int (nI j), .int 3] (am_hh X S L) Q := by
  refine ax_in (ls := [some (.ref 285), some (.int (nI j)), some (.int 3)]) rfl ?_
  refine ax_s (pc' := 1) (st' := [.ref 285]) rfl rfl rfl rfl ?_
  refine ax_s (pc' := 2) (st' := [.int (nI j), .ref 285]) rfl rfl rfl rfl ?_
  refine ax_call (vs := [.ref 285, .int (nI j)]) (rr := []) rfl rfl rfl ?_
  refine mt_isParty  ?_
  show am_ex (d + 4) 222 5 [some (.ref 285), some (.int (nI j)), some (.int 3)] [.int (bI (decide (¬ (nI j) < 0 ∧ ¬ (S 285 7) - 1 < (nI j))))] (am_hh X S L) _
  refine ax_pF rfl (fun c1 => ?_) (fun c1 => ?_)
  · refine ax_s (pc' := 19) (st' := [.int (-1000001)]) rfl rfl rfl rfl ?_
    refine ax_r rfl rfl rfl ?_
    exact k1 c1
  · refine ax_s (pc' := 9) (st' := [.int 3]) rfl rfl rfl rfl ?_
    refine ax_s (pc' := 10) (st' := [.int 0, .int 3]) rfl rfl rfl rfl ?_
    refine ax_s (pc' := 11) (st' := [.int 5, .int 0, .int 3]) rfl rfl rfl rfl ?_
    refine ax_call (vs := [.int 3, .int 0, .int 5]) (rr := []) rfl rfl rfl ?_
    refine mt_in ?_
    show am_ex (d + 4) 222 14 [some (.ref 285), some (.int (nI j)), some (.int 3)] [.int 1] (am_hh X S L) _
    refine ax_if_ne rfl (fun c2 => ?_) (fun c2 => False.elim (by revert c2; decide))
    refine ax_s (pc' := 21) (st' := [.ref 285]) rfl rfl rfl rfl ?_
    refine ax_s (pc' := 22) (st' := [.int (nI j), .ref 285]) rfl rfl rfl rfl ?_
    refine ax_s (pc' := 23) (st' := [.int 3, .int (nI j), .ref 285]) rfl rfl rfl rfl ?_
    refine ax_call (vs := [.ref 285, .int (nI j), .int 3]) (rr := []) rfl rfl rfl ?_
    refine ax_in (ls := [some (.ref 285), some (.int (nI j)), some (.int 3), none]) rfl ?_
    refine ax_s (pc' := 1) (st' := [.ref 285]) rfl rfl rfl rfl ?_
    refine ax_get rfl (hh_285 _ _ _) rfl rfl rfl ?_
    show am_ex (d + 3) 223 4 [some (.ref 285), some (.int (nI j)), some (.int 3), none] [.ref 290] (am_hh X S L) _
    refine ax_s (pc' := 5) (st' := [.int (nI j), .ref 290]) rfl rfl rfl rfl ?_
    refine ax_ald (j := j) (v := 3) rfl (hh_290 _ _ _) rfl rfl (x1 c1) (by decide) hk ?_
    refine ax_s (pc' := 7) (ls' := [some (.ref 285), some (.int (nI j)), some (.int 3), some (.int 3)]) (st' := []) rfl rfl rfl rfl ?_
    refine ax_s (pc' := 8) (st' := [.int 3]) rfl rfl rfl rfl ?_
    refine ax_if_eq rfl (fun c3 => False.elim (by revert c3; decide)) (fun c3 => ?_)
    refine ax_s (pc' := 12) (st' := [.int 3]) rfl rfl rfl rfl ?_
    refine ax_s (pc' := 13) (st' := [.int 3, .int 3]) rfl rfl rfl rfl ?_
    refine ax_cmp_eq rfl (fun c4 => ?_) (fun c4 => False.elim (by revert c4; decide))
    refine ax_s (pc' := 37) (st' := [.int 1]) rfl rfl rfl rfl ?_
    refine ax_s (pc' := 41) (st' := [.int 1]) rfl rfl rfl rfl ?_
    refine ax_rb (b := true) rfl rfl ?_
    show am_ex (d + 4) 222 26 [some (.ref 285), some (.int (nI j)), some (.int 3)] [.int 1] (am_hh X S L) _
    refine ax_if_ne rfl (fun c5 => ?_) (fun c5 => False.elim (by revert c5; decide))
    refine ax_s (pc' := 36) (st' := [.ref 285]) rfl rfl rfl rfl ?_
    refine ax_s (pc' := 37) (st' := [.int 0, .ref 285]) rfl rfl rfl rfl ?_
    refine ax_put rfl (hh_285 _ _ _) rfl rfl (show 3 + 1 ≤ _ from Nat.le_of_ble_eq_true rfl) rfl (am_hh_set _ _ _ 285 3 _ rfl) ?_
    refine ax_s (pc' := 41) (st' := [.int (nI j)]) rfl rfl rfl rfl ?_
    refine ax_r rfl rfl rfl ?_
    exact k2 c1
theorem wk_as_3_4 {d : Nat} {X : Nat × (Nat → Int32)} {S : Nat → Nat → Int32} {L : Nat → Int64} {j : Nat} {Q : Option Value → am_H → Prop} (hk : S 22 j = 3) (hj : j < 6)  (x1 : ¬ (nI j) < 0 ∧ ¬ (S 20 4) ≤ (nI j) → j < 6) (k1 : ¬ (¬ (nI j) < 0 ∧ ¬ (S 20 4) ≤ (nI j)) → Q (some (.int (-1000001))) (am_hh X S L)) (k2 : ¬ (nI j) < 0 ∧ ¬ (S 20 4) ≤ (nI j) → Q (some (.int (-1000013))) (am_hh X (am_u S 5 12 3) L)) : am_mt (d + 4) 133 [.ref 5, .int (nI j), .int 4] (am_hh X S L) Q := by
  refine ax_in (ls := [some (.ref 5), some (.int (nI j)), some (.int 4)]) rfl ?_
  refine ax_s (pc' := 1) (st' := [.ref 5]) rfl rfl rfl rfl ?_
  refine ax_get rfl (hh_5 _ _ _) rfl rfl rfl ?_
  show am_ex (d + 4) 133 4 [some (.ref 5), some (.int (nI j)), some (.int 4)] [.ref 20] (am_hh X S L) _
  refine ax_s (pc' := 5) (st' := [.int (nI j), .ref 20]) rfl rfl rfl rfl ?_
  refine ax_call (vs := [.ref 20, .int (nI j)]) (rr := []) rfl rfl rfl ?_
  refine kw (am_hh_sub isW20 X S L) (am_hh_sub isW20 X S L).symm (fun _ => ct_hasParty (am_isW_k isW20 X S L)) ?_
  show am_ex (d + 4) 133 8 [some (.ref 5), some (.int (nI j)), some (.int 4)] [.int (bI (decide (¬ (nI j) < 0 ∧ ¬ (S 20 4) ≤ (nI j))))] (am_hh X S L) _
  refine ax_pF rfl (fun c1 => ?_) (fun c1 => ?_)
  · refine ax_s (pc' := 22) (st' := [.int (-1000001)]) rfl rfl rfl rfl ?_
    refine ax_r rfl rfl rfl ?_
    exact k1 c1
  · refine ax_s (pc' := 12) (st' := [.int 4]) rfl rfl rfl rfl ?_
    refine ax_s (pc' := 13) (st' := [.int 0, .int 4]) rfl rfl rfl rfl ?_
    refine ax_s (pc' := 14) (st' := [.int 5, .int 0, .int 4]) rfl rfl rfl rfl ?_
    refine ax_call (vs := [.int 4, .int 0, .int 5]) (rr := []) rfl rfl rfl ?_
    refine ct_isOutside ?_
    show am_ex (d + 4) 133 17 [some (.ref 5), some (.int (nI j)), some (.int 4)] [.int 0] (am_hh X S L) _
    refine ax_if_eq rfl (fun c2 => ?_) (fun c2 => False.elim (by revert c2; decide))
    refine ax_s (pc' := 24) (st' := [.ref 5]) rfl rfl rfl rfl ?_
    refine ax_get rfl (hh_5 _ _ _) rfl rfl rfl ?_
    show am_ex (d + 4) 133 27 [some (.ref 5), some (.int (nI j)), some (.int 4)] [.ref 20] (am_hh X S L) _
    refine ax_get rfl (hh_20 _ _ _) rfl rfl rfl ?_
    show am_ex (d + 4) 133 30 [some (.ref 5), some (.int (nI j)), some (.int 4)] [.ref 22] (am_hh X S L) _
    refine ax_s (pc' := 31) (st' := [.int (nI j), .ref 22]) rfl rfl rfl rfl ?_
    refine ax_ald (j := j) (v := 3) rfl (hh_22 _ _ _) rfl rfl (x1 c1) (by decide) hk ?_
    refine ax_s (pc' := 33) (st' := [.int 4, .int 3]) rfl rfl rfl rfl ?_
    refine ax_call (vs := [.int 3, .int 4]) (rr := []) rfl rfl rfl ?_
    refine kt_isSuch_3_4 ?_
    show am_ex (d + 4) 133 36 [some (.ref 5), some (.int (nI j)), some (.int 4)] [.int 0] (am_hh X S L) _
    refine ax_if_ne rfl (fun c3 => False.elim (by revert c3; decide)) (fun c3 => ?_)
    refine ax_s (pc' := 40) (st' := [.ref 5]) rfl rfl rfl rfl ?_
    refine ax_s (pc' := 41) (st' := [.int 3, .ref 5]) rfl rfl rfl rfl ?_
    refine ax_call (vs := [.ref 5, .int 3]) (rr := []) rfl rfl rfl ?_
    refine ax_in (ls := [some (.ref 5), some (.int 3)]) rfl ?_
    refine ax_s (pc' := 1) (st' := [.ref 5]) rfl rfl rfl rfl ?_
    refine ax_s (pc' := 2) (st' := [.int 3, .ref 5]) rfl rfl rfl rfl ?_
    refine ax_put rfl (hh_5 _ _ _) rfl rfl (show 12 + 1 ≤ _ from Nat.le_of_ble_eq_true rfl) rfl (am_hh_set _ _ _ 5 12 _ rfl) ?_
    refine ax_s (pc' := 8) (st' := [.int (-1000010)]) rfl rfl rfl rfl ?_
    refine ax_s (pc' := 9) (st' := [.int 3, .int (-1000010)]) rfl rfl rfl rfl ?_
    refine ax_s (pc' := 10) (st' := [.int (-1000013)]) rfl rfl rfl rfl ?_
    refine ax_r rfl rfl rfl ?_
    show am_ex (d + 4) 133 44 [some (.ref 5), some (.int (nI j)), some (.int 4)] [.int (-1000013)] (am_hh X (am_u S 5 12 3) L) _
    refine ax_r rfl rfl rfl ?_
    exact k2 c1
theorem wm_as_3_4 {d : Nat} {X : Nat × (Nat → Int32)} {S : Nat → Nat → Int32} {L : Nat → Int64} {j : Nat} {Q : Option Value → am_H → Prop} (hk : S 290 j = 3) (hj : j < 6)  (x1 : ¬ (nI j) < 0 ∧ ¬ (S 285 7) - 1 < (nI j) → j < 6) (k1 : ¬ (¬ (nI j) < 0 ∧ ¬ (S 285 7) - 1 < (nI j)) → Q (some (.int (-1000001))) (am_hh X S L)) (k2 : ¬ (nI j) < 0 ∧ ¬ (S 285 7) - 1 < (nI j) → Q (some (.int (-1000013))) (am_hh X (am_u S 285 3 3) L)) : am_mt (d + 4) 222 [.ref 285, .int (nI j), .int 4] (am_hh X S L) Q := by
  refine ax_in (ls := [some (.ref 285), some (.int (nI j)), some (.int 4)]) rfl ?_
  refine ax_s (pc' := 1) (st' := [.ref 285]) rfl rfl rfl rfl ?_
  refine ax_s (pc' := 2) (st' := [.int (nI j), .ref 285]) rfl rfl rfl rfl ?_
  refine ax_call (vs := [.ref 285, .int (nI j)]) (rr := []) rfl rfl rfl ?_
  refine mt_isParty  ?_
  show am_ex (d + 4) 222 5 [some (.ref 285), some (.int (nI j)), some (.int 4)] [.int (bI (decide (¬ (nI j) < 0 ∧ ¬ (S 285 7) - 1 < (nI j))))] (am_hh X S L) _
  refine ax_pF rfl (fun c1 => ?_) (fun c1 => ?_)
  · refine ax_s (pc' := 19) (st' := [.int (-1000001)]) rfl rfl rfl rfl ?_
    refine ax_r rfl rfl rfl ?_
    exact k1 c1
  · refine ax_s (pc' := 9) (st' := [.int 4]) rfl rfl rfl rfl ?_
    refine ax_s (pc' := 10) (st' := [.int 0, .int 4]) rfl rfl rfl rfl ?_
    refine ax_s (pc' := 11) (st' := [.int 5, .int 0, .int 4]) rfl rfl rfl rfl ?_
    refine ax_call (vs := [.int 4, .int 0, .int 5]) (rr := []) rfl rfl rfl ?_
    refine mt_in ?_
    show am_ex (d + 4) 222 14 [some (.ref 285), some (.int (nI j)), some (.int 4)] [.int 1] (am_hh X S L) _
    refine ax_if_ne rfl (fun c2 => ?_) (fun c2 => False.elim (by revert c2; decide))
    refine ax_s (pc' := 21) (st' := [.ref 285]) rfl rfl rfl rfl ?_
    refine ax_s (pc' := 22) (st' := [.int (nI j), .ref 285]) rfl rfl rfl rfl ?_
    refine ax_s (pc' := 23) (st' := [.int 4, .int (nI j), .ref 285]) rfl rfl rfl rfl ?_
    refine ax_call (vs := [.ref 285, .int (nI j), .int 4]) (rr := []) rfl rfl rfl ?_
    refine ax_in (ls := [some (.ref 285), some (.int (nI j)), some (.int 4), none]) rfl ?_
    refine ax_s (pc' := 1) (st' := [.ref 285]) rfl rfl rfl rfl ?_
    refine ax_get rfl (hh_285 _ _ _) rfl rfl rfl ?_
    show am_ex (d + 3) 223 4 [some (.ref 285), some (.int (nI j)), some (.int 4), none] [.ref 290] (am_hh X S L) _
    refine ax_s (pc' := 5) (st' := [.int (nI j), .ref 290]) rfl rfl rfl rfl ?_
    refine ax_ald (j := j) (v := 3) rfl (hh_290 _ _ _) rfl rfl (x1 c1) (by decide) hk ?_
    refine ax_s (pc' := 7) (ls' := [some (.ref 285), some (.int (nI j)), some (.int 4), some (.int 3)]) (st' := []) rfl rfl rfl rfl ?_
    refine ax_s (pc' := 8) (st' := [.int 4]) rfl rfl rfl rfl ?_
    refine ax_if_eq rfl (fun c3 => False.elim (by revert c3; decide)) (fun c3 => ?_)
    refine ax_s (pc' := 12) (st' := [.int 4]) rfl rfl rfl rfl ?_
    refine ax_s (pc' := 13) (st' := [.int 3, .int 4]) rfl rfl rfl rfl ?_
    refine ax_cmp_eq rfl (fun c4 => False.elim (by revert c4; decide)) (fun c4 => ?_)
    refine ax_s (pc' := 17) (st' := [.int 4]) rfl rfl rfl rfl ?_
    refine ax_s (pc' := 18) (st' := [.int 1, .int 4]) rfl rfl rfl rfl ?_
    refine ax_cmp_ne rfl (fun c5 => ?_) (fun c5 => False.elim (by revert c5; decide))
    refine ax_s (pc' := 27) (st' := [.int 4]) rfl rfl rfl rfl ?_
    refine ax_s (pc' := 28) (st' := [.int 4, .int 4]) rfl rfl rfl rfl ?_
    refine ax_cmp_ne rfl (fun c6 => False.elim (by revert c6; decide)) (fun c6 => ?_)
    refine ax_s (pc' := 32) (st' := [.int 3]) rfl rfl rfl rfl ?_
    refine ax_s (pc' := 33) (st' := [.int 5, .int 3]) rfl rfl rfl rfl ?_
    refine ax_cmp_ne rfl (fun c7 => ?_) (fun c7 => False.elim (by revert c7; decide))
    refine ax_s (pc' := 41) (st' := [.int 0]) rfl rfl rfl rfl ?_
    refine ax_rb (b := false) rfl rfl ?_
    show am_ex (d + 4) 222 26 [some (.ref 285), some (.int (nI j)), some (.int 4)] [.int 0] (am_hh X S L) _
    refine ax_if_ne rfl (fun c8 => False.elim (by revert c8; decide)) (fun c8 => ?_)
    refine ax_s (pc' := 30) (st' := [.ref 285]) rfl rfl rfl rfl ?_
    refine ax_s (pc' := 31) (st' := [.int 3, .ref 285]) rfl rfl rfl rfl ?_
    refine ax_call (vs := [.ref 285, .int 3]) (rr := []) rfl rfl rfl ?_
    refine ax_in (ls := [some (.ref 285), some (.int 3)]) rfl ?_
    refine ax_s (pc' := 1) (st' := [.ref 285]) rfl rfl rfl rfl ?_
    refine ax_s (pc' := 2) (st' := [.int 3, .ref 285]) rfl rfl rfl rfl ?_
    refine ax_put rfl (hh_285 _ _ _) rfl rfl (show 3 + 1 ≤ _ from Nat.le_of_ble_eq_true rfl) rfl (am_hh_set _ _ _ 285 3 _ rfl) ?_
    refine ax_s (pc' := 7) (st' := [.int (-1000010)]) rfl rfl rfl rfl ?_
    refine ax_s (pc' := 8) (st' := [.int 3, .int (-1000010)]) rfl rfl rfl rfl ?_
    refine ax_s (pc' := 9) (st' := [.int (-1000013)]) rfl rfl rfl rfl ?_
    refine ax_r rfl rfl rfl ?_
    show am_ex (d + 4) 222 34 [some (.ref 285), some (.int (nI j)), some (.int 4)] [.int (-1000013)] (am_hh X (am_u S 285 3 3) L) _
    refine ax_r rfl rfl rfl ?_
    exact k2 c1
theorem wk_as_3_5 {d : Nat} {X : Nat × (Nat → Int32)} {S : Nat → Nat → Int32} {L : Nat → Int64} {j : Nat} {Q : Option Value → am_H → Prop} (hk : S 22 j = 3) (hj : j < 6)  (x1 : ¬ (nI j) < 0 ∧ ¬ (S 20 4) ≤ (nI j) → j < 6) (k1 : ¬ (¬ (nI j) < 0 ∧ ¬ (S 20 4) ≤ (nI j)) → Q (some (.int (-1000001))) (am_hh X S L)) (k2 : ¬ (nI j) < 0 ∧ ¬ (S 20 4) ≤ (nI j) → Q (some (.int (-1000013))) (am_hh X (am_u S 5 12 3) L)) : am_mt (d + 4) 133 [.ref 5, .int (nI j), .int 5] (am_hh X S L) Q := by
  refine ax_in (ls := [some (.ref 5), some (.int (nI j)), some (.int 5)]) rfl ?_
  refine ax_s (pc' := 1) (st' := [.ref 5]) rfl rfl rfl rfl ?_
  refine ax_get rfl (hh_5 _ _ _) rfl rfl rfl ?_
  show am_ex (d + 4) 133 4 [some (.ref 5), some (.int (nI j)), some (.int 5)] [.ref 20] (am_hh X S L) _
  refine ax_s (pc' := 5) (st' := [.int (nI j), .ref 20]) rfl rfl rfl rfl ?_
  refine ax_call (vs := [.ref 20, .int (nI j)]) (rr := []) rfl rfl rfl ?_
  refine kw (am_hh_sub isW20 X S L) (am_hh_sub isW20 X S L).symm (fun _ => ct_hasParty (am_isW_k isW20 X S L)) ?_
  show am_ex (d + 4) 133 8 [some (.ref 5), some (.int (nI j)), some (.int 5)] [.int (bI (decide (¬ (nI j) < 0 ∧ ¬ (S 20 4) ≤ (nI j))))] (am_hh X S L) _
  refine ax_pF rfl (fun c1 => ?_) (fun c1 => ?_)
  · refine ax_s (pc' := 22) (st' := [.int (-1000001)]) rfl rfl rfl rfl ?_
    refine ax_r rfl rfl rfl ?_
    exact k1 c1
  · refine ax_s (pc' := 12) (st' := [.int 5]) rfl rfl rfl rfl ?_
    refine ax_s (pc' := 13) (st' := [.int 0, .int 5]) rfl rfl rfl rfl ?_
    refine ax_s (pc' := 14) (st' := [.int 5, .int 0, .int 5]) rfl rfl rfl rfl ?_
    refine ax_call (vs := [.int 5, .int 0, .int 5]) (rr := []) rfl rfl rfl ?_
    refine ct_isOutside ?_
    show am_ex (d + 4) 133 17 [some (.ref 5), some (.int (nI j)), some (.int 5)] [.int 0] (am_hh X S L) _
    refine ax_if_eq rfl (fun c2 => ?_) (fun c2 => False.elim (by revert c2; decide))
    refine ax_s (pc' := 24) (st' := [.ref 5]) rfl rfl rfl rfl ?_
    refine ax_get rfl (hh_5 _ _ _) rfl rfl rfl ?_
    show am_ex (d + 4) 133 27 [some (.ref 5), some (.int (nI j)), some (.int 5)] [.ref 20] (am_hh X S L) _
    refine ax_get rfl (hh_20 _ _ _) rfl rfl rfl ?_
    show am_ex (d + 4) 133 30 [some (.ref 5), some (.int (nI j)), some (.int 5)] [.ref 22] (am_hh X S L) _
    refine ax_s (pc' := 31) (st' := [.int (nI j), .ref 22]) rfl rfl rfl rfl ?_
    refine ax_ald (j := j) (v := 3) rfl (hh_22 _ _ _) rfl rfl (x1 c1) (by decide) hk ?_
    refine ax_s (pc' := 33) (st' := [.int 5, .int 3]) rfl rfl rfl rfl ?_
    refine ax_call (vs := [.int 3, .int 5]) (rr := []) rfl rfl rfl ?_
    refine kt_isSuch_3_5 ?_
    show am_ex (d + 4) 133 36 [some (.ref 5), some (.int (nI j)), some (.int 5)] [.int 0] (am_hh X S L) _
    refine ax_if_ne rfl (fun c3 => False.elim (by revert c3; decide)) (fun c3 => ?_)
    refine ax_s (pc' := 40) (st' := [.ref 5]) rfl rfl rfl rfl ?_
    refine ax_s (pc' := 41) (st' := [.int 3, .ref 5]) rfl rfl rfl rfl ?_
    refine ax_call (vs := [.ref 5, .int 3]) (rr := []) rfl rfl rfl ?_
    refine ax_in (ls := [some (.ref 5), some (.int 3)]) rfl ?_
    refine ax_s (pc' := 1) (st' := [.ref 5]) rfl rfl rfl rfl ?_
    refine ax_s (pc' := 2) (st' := [.int 3, .ref 5]) rfl rfl rfl rfl ?_
    refine ax_put rfl (hh_5 _ _ _) rfl rfl (show 12 + 1 ≤ _ from Nat.le_of_ble_eq_true rfl) rfl (am_hh_set _ _ _ 5 12 _ rfl) ?_
    refine ax_s (pc' := 8) (st' := [.int (-1000010)]) rfl rfl rfl rfl ?_
    refine ax_s (pc' := 9) (st' := [.int 3, .int (-1000010)]) rfl rfl rfl rfl ?_
    refine ax_s (pc' := 10) (st' := [.int (-1000013)]) rfl rfl rfl rfl ?_
    refine ax_r rfl rfl rfl ?_
    show am_ex (d + 4) 133 44 [some (.ref 5), some (.int (nI j)), some (.int 5)] [.int (-1000013)] (am_hh X (am_u S 5 12 3) L) _
    refine ax_r rfl rfl rfl ?_
    exact k2 c1
theorem wm_as_3_5 {d : Nat} {X : Nat × (Nat → Int32)} {S : Nat → Nat → Int32} {L : Nat → Int64} {j : Nat} {Q : Option Value → am_H → Prop} (hk : S 290 j = 3) (hj : j < 6)  (x1 : ¬ (nI j) < 0 ∧ ¬ (S 285 7) - 1 < (nI j) → j < 6) (k1 : ¬ (¬ (nI j) < 0 ∧ ¬ (S 285 7) - 1 < (nI j)) → Q (some (.int (-1000001))) (am_hh X S L)) (k2 : ¬ (nI j) < 0 ∧ ¬ (S 285 7) - 1 < (nI j) → Q (some (.int (-1000013))) (am_hh X (am_u S 285 3 3) L)) : am_mt (d + 4) 222 [.ref 285, .int (nI j), .int 5] (am_hh X S L) Q := by
  refine ax_in (ls := [some (.ref 285), some (.int (nI j)), some (.int 5)]) rfl ?_
  refine ax_s (pc' := 1) (st' := [.ref 285]) rfl rfl rfl rfl ?_
  refine ax_s (pc' := 2) (st' := [.int (nI j), .ref 285]) rfl rfl rfl rfl ?_
  refine ax_call (vs := [.ref 285, .int (nI j)]) (rr := []) rfl rfl rfl ?_
  refine mt_isParty  ?_
  show am_ex (d + 4) 222 5 [some (.ref 285), some (.int (nI j)), some (.int 5)] [.int (bI (decide (¬ (nI j) < 0 ∧ ¬ (S 285 7) - 1 < (nI j))))] (am_hh X S L) _
  refine ax_pF rfl (fun c1 => ?_) (fun c1 => ?_)
  · refine ax_s (pc' := 19) (st' := [.int (-1000001)]) rfl rfl rfl rfl ?_
    refine ax_r rfl rfl rfl ?_
    exact k1 c1
  · refine ax_s (pc' := 9) (st' := [.int 5]) rfl rfl rfl rfl ?_
    refine ax_s (pc' := 10) (st' := [.int 0, .int 5]) rfl rfl rfl rfl ?_
    refine ax_s (pc' := 11) (st' := [.int 5, .int 0, .int 5]) rfl rfl rfl rfl ?_
    refine ax_call (vs := [.int 5, .int 0, .int 5]) (rr := []) rfl rfl rfl ?_
    refine mt_in ?_
    show am_ex (d + 4) 222 14 [some (.ref 285), some (.int (nI j)), some (.int 5)] [.int 1] (am_hh X S L) _
    refine ax_if_ne rfl (fun c2 => ?_) (fun c2 => False.elim (by revert c2; decide))
    refine ax_s (pc' := 21) (st' := [.ref 285]) rfl rfl rfl rfl ?_
    refine ax_s (pc' := 22) (st' := [.int (nI j), .ref 285]) rfl rfl rfl rfl ?_
    refine ax_s (pc' := 23) (st' := [.int 5, .int (nI j), .ref 285]) rfl rfl rfl rfl ?_
    refine ax_call (vs := [.ref 285, .int (nI j), .int 5]) (rr := []) rfl rfl rfl ?_
    refine ax_in (ls := [some (.ref 285), some (.int (nI j)), some (.int 5), none]) rfl ?_
    refine ax_s (pc' := 1) (st' := [.ref 285]) rfl rfl rfl rfl ?_
    refine ax_get rfl (hh_285 _ _ _) rfl rfl rfl ?_
    show am_ex (d + 3) 223 4 [some (.ref 285), some (.int (nI j)), some (.int 5), none] [.ref 290] (am_hh X S L) _
    refine ax_s (pc' := 5) (st' := [.int (nI j), .ref 290]) rfl rfl rfl rfl ?_
    refine ax_ald (j := j) (v := 3) rfl (hh_290 _ _ _) rfl rfl (x1 c1) (by decide) hk ?_
    refine ax_s (pc' := 7) (ls' := [some (.ref 285), some (.int (nI j)), some (.int 5), some (.int 3)]) (st' := []) rfl rfl rfl rfl ?_
    refine ax_s (pc' := 8) (st' := [.int 5]) rfl rfl rfl rfl ?_
    refine ax_if_eq rfl (fun c3 => False.elim (by revert c3; decide)) (fun c3 => ?_)
    refine ax_s (pc' := 12) (st' := [.int 5]) rfl rfl rfl rfl ?_
    refine ax_s (pc' := 13) (st' := [.int 3, .int 5]) rfl rfl rfl rfl ?_
    refine ax_cmp_eq rfl (fun c4 => False.elim (by revert c4; decide)) (fun c4 => ?_)
    refine ax_s (pc' := 17) (st' := [.int 5]) rfl rfl rfl rfl ?_
    refine ax_s (pc' := 18) (st' := [.int 1, .int 5]) rfl rfl rfl rfl ?_
    refine ax_cmp_ne rfl (fun c5 => ?_) (fun c5 => False.elim (by revert c5; decide))
    refine ax_s (pc' := 27) (st' := [.int 5]) rfl rfl rfl rfl ?_
    refine ax_s (pc' := 28) (st' := [.int 4, .int 5]) rfl rfl rfl rfl ?_
    refine ax_cmp_ne rfl (fun c6 => ?_) (fun c6 => False.elim (by revert c6; decide))
    refine ax_s (pc' := 41) (st' := [.int 0]) rfl rfl rfl rfl ?_
    refine ax_rb (b := false) rfl rfl ?_
    show am_ex (d + 4) 222 26 [some (.ref 285), some (.int (nI j)), some (.int 5)] [.int 0] (am_hh X S L) _
    refine ax_if_ne rfl (fun c7 => False.elim (by revert c7; decide)) (fun c7 => ?_)
    refine ax_s (pc' := 30) (st' := [.ref 285]) rfl rfl rfl rfl ?_
    refine ax_s (pc' := 31) (st' := [.int 3, .ref 285]) rfl rfl rfl rfl ?_
    refine ax_call (vs := [.ref 285, .int 3]) (rr := []) rfl rfl rfl ?_
    refine ax_in (ls := [some (.ref 285), some (.int 3)]) rfl ?_
    refine ax_s (pc' := 1) (st' := [.ref 285]) rfl rfl rfl rfl ?_
    refine ax_s (pc' := 2) (st' := [.int 3, .ref 285]) rfl rfl rfl rfl ?_
    refine ax_put rfl (hh_285 _ _ _) rfl rfl (show 3 + 1 ≤ _ from Nat.le_of_ble_eq_true rfl) rfl (am_hh_set _ _ _ 285 3 _ rfl) ?_
    refine ax_s (pc' := 7) (st' := [.int (-1000010)]) rfl rfl rfl rfl ?_
    refine ax_s (pc' := 8) (st' := [.int 3, .int (-1000010)]) rfl rfl rfl rfl ?_
    refine ax_s (pc' := 9) (st' := [.int (-1000013)]) rfl rfl rfl rfl ?_
    refine ax_r rfl rfl rfl ?_
    show am_ex (d + 4) 222 34 [some (.ref 285), some (.int (nI j)), some (.int 5)] [.int (-1000013)] (am_hh X (am_u S 285 3 3) L) _
    refine ax_r rfl rfl rfl ?_
    exact k2 c1
theorem wk_as_4_0 {d : Nat} {X : Nat × (Nat → Int32)} {S : Nat → Nat → Int32} {L : Nat → Int64} {j : Nat} {Q : Option Value → am_H → Prop} (hk : S 22 j = 4) (hj : j < 6)  (x1 : ¬ (nI j) < 0 ∧ ¬ (S 20 4) ≤ (nI j) → j < 6) (k1 : ¬ (¬ (nI j) < 0 ∧ ¬ (S 20 4) ≤ (nI j)) → Q (some (.int (-1000001))) (am_hh X S L)) (k2 : ¬ (nI j) < 0 ∧ ¬ (S 20 4) ≤ (nI j) → Q (some (.int (nI j))) (am_hh X (am_u S 5 12 0) L)) : am_mt (d + 4) 133 [.ref 5, .int (nI j), .int 0] (am_hh X S L) Q := by
  refine ax_in (ls := [some (.ref 5), some (.int (nI j)), some (.int 0)]) rfl ?_
  refine ax_s (pc' := 1) (st' := [.ref 5]) rfl rfl rfl rfl ?_
  refine ax_get rfl (hh_5 _ _ _) rfl rfl rfl ?_
  show am_ex (d + 4) 133 4 [some (.ref 5), some (.int (nI j)), some (.int 0)] [.ref 20] (am_hh X S L) _
  refine ax_s (pc' := 5) (st' := [.int (nI j), .ref 20]) rfl rfl rfl rfl ?_
  refine ax_call (vs := [.ref 20, .int (nI j)]) (rr := []) rfl rfl rfl ?_
  refine kw (am_hh_sub isW20 X S L) (am_hh_sub isW20 X S L).symm (fun _ => ct_hasParty (am_isW_k isW20 X S L)) ?_
  show am_ex (d + 4) 133 8 [some (.ref 5), some (.int (nI j)), some (.int 0)] [.int (bI (decide (¬ (nI j) < 0 ∧ ¬ (S 20 4) ≤ (nI j))))] (am_hh X S L) _
  refine ax_pF rfl (fun c1 => ?_) (fun c1 => ?_)
  · refine ax_s (pc' := 22) (st' := [.int (-1000001)]) rfl rfl rfl rfl ?_
    refine ax_r rfl rfl rfl ?_
    exact k1 c1
  · refine ax_s (pc' := 12) (st' := [.int 0]) rfl rfl rfl rfl ?_
    refine ax_s (pc' := 13) (st' := [.int 0, .int 0]) rfl rfl rfl rfl ?_
    refine ax_s (pc' := 14) (st' := [.int 5, .int 0, .int 0]) rfl rfl rfl rfl ?_
    refine ax_call (vs := [.int 0, .int 0, .int 5]) (rr := []) rfl rfl rfl ?_
    refine ct_isOutside ?_
    show am_ex (d + 4) 133 17 [some (.ref 5), some (.int (nI j)), some (.int 0)] [.int 0] (am_hh X S L) _
    refine ax_if_eq rfl (fun c2 => ?_) (fun c2 => False.elim (by revert c2; decide))
    refine ax_s (pc' := 24) (st' := [.ref 5]) rfl rfl rfl rfl ?_
    refine ax_get rfl (hh_5 _ _ _) rfl rfl rfl ?_
    show am_ex (d + 4) 133 27 [some (.ref 5), some (.int (nI j)), some (.int 0)] [.ref 20] (am_hh X S L) _
    refine ax_get rfl (hh_20 _ _ _) rfl rfl rfl ?_
    show am_ex (d + 4) 133 30 [some (.ref 5), some (.int (nI j)), some (.int 0)] [.ref 22] (am_hh X S L) _
    refine ax_s (pc' := 31) (st' := [.int (nI j), .ref 22]) rfl rfl rfl rfl ?_
    refine ax_ald (j := j) (v := 4) rfl (hh_22 _ _ _) rfl rfl (x1 c1) (by decide) hk ?_
    refine ax_s (pc' := 33) (st' := [.int 0, .int 4]) rfl rfl rfl rfl ?_
    refine ax_call (vs := [.int 4, .int 0]) (rr := []) rfl rfl rfl ?_
    refine kt_isSuch_4_0 ?_
    show am_ex (d + 4) 133 36 [some (.ref 5), some (.int (nI j)), some (.int 0)] [.int 1] (am_hh X S L) _
    refine ax_if_ne rfl (fun c3 => ?_) (fun c3 => False.elim (by revert c3; decide))
    refine ax_s (pc' := 46) (st' := [.ref 5]) rfl rfl rfl rfl ?_
    refine ax_s (pc' := 47) (st' := [.int (nI j), .ref 5]) rfl rfl rfl rfl ?_
    refine ax_call (vs := [.ref 5, .int (nI j)]) (rr := []) rfl rfl rfl ?_
    refine ax_in (ls := [some (.ref 5), some (.int (nI j))]) rfl ?_
    refine ax_s (pc' := 1) (st' := [.ref 5]) rfl rfl rfl rfl ?_
    refine ax_s (pc' := 2) (st' := [.int 0, .ref 5]) rfl rfl rfl rfl ?_
    refine ax_put rfl (hh_5 _ _ _) rfl rfl (show 12 + 1 ≤ _ from Nat.le_of_ble_eq_true rfl) rfl (am_hh_set _ _ _ 5 12 _ rfl) ?_
    refine ax_s (pc' := 6) (st' := [.int (nI j)]) rfl rfl rfl rfl ?_
    refine ax_r rfl rfl rfl ?_
    show am_ex (d + 4) 133 50 [some (.ref 5), some (.int (nI j)), some (.int 0)] [.int (nI j)] (am_hh X (am_u S 5 12 0) L) _
    refine ax_r rfl rfl rfl ?_
    exact k2 c1
theorem wm_as_4_0 {d : Nat} {X : Nat × (Nat → Int32)} {S : Nat → Nat → Int32} {L : Nat → Int64} {j : Nat} {Q : Option Value → am_H → Prop} (hk : S 290 j = 4) (hj : j < 6)  (x1 : ¬ (nI j) < 0 ∧ ¬ (S 285 7) - 1 < (nI j) → j < 6) (k1 : ¬ (¬ (nI j) < 0 ∧ ¬ (S 285 7) - 1 < (nI j)) → Q (some (.int (-1000001))) (am_hh X S L)) (k2 : ¬ (nI j) < 0 ∧ ¬ (S 285 7) - 1 < (nI j) → Q (some (.int (nI j))) (am_hh X (am_u S 285 3 0) L)) : am_mt (d + 4) 222 [.ref 285, .int (nI j), .int 0] (am_hh X S L) Q := by
  refine ax_in (ls := [some (.ref 285), some (.int (nI j)), some (.int 0)]) rfl ?_
  refine ax_s (pc' := 1) (st' := [.ref 285]) rfl rfl rfl rfl ?_
  refine ax_s (pc' := 2) (st' := [.int (nI j), .ref 285]) rfl rfl rfl rfl ?_
  refine ax_call (vs := [.ref 285, .int (nI j)]) (rr := []) rfl rfl rfl ?_
  refine mt_isParty  ?_
  show am_ex (d + 4) 222 5 [some (.ref 285), some (.int (nI j)), some (.int 0)] [.int (bI (decide (¬ (nI j) < 0 ∧ ¬ (S 285 7) - 1 < (nI j))))] (am_hh X S L) _
  refine ax_pF rfl (fun c1 => ?_) (fun c1 => ?_)
  · refine ax_s (pc' := 19) (st' := [.int (-1000001)]) rfl rfl rfl rfl ?_
    refine ax_r rfl rfl rfl ?_
    exact k1 c1
  · refine ax_s (pc' := 9) (st' := [.int 0]) rfl rfl rfl rfl ?_
    refine ax_s (pc' := 10) (st' := [.int 0, .int 0]) rfl rfl rfl rfl ?_
    refine ax_s (pc' := 11) (st' := [.int 5, .int 0, .int 0]) rfl rfl rfl rfl ?_
    refine ax_call (vs := [.int 0, .int 0, .int 5]) (rr := []) rfl rfl rfl ?_
    refine mt_in ?_
    show am_ex (d + 4) 222 14 [some (.ref 285), some (.int (nI j)), some (.int 0)] [.int 1] (am_hh X S L) _
    refine ax_if_ne rfl (fun c2 => ?_) (fun c2 => False.elim (by revert c2; decide))
    refine ax_s (pc' := 21) (st' := [.ref 285]) rfl rfl rfl rfl ?_
    refine ax_s (pc' := 22) (st' := [.int (nI j), .ref 285]) rfl rfl rfl rfl ?_
    refine ax_s (pc' := 23) (st' := [.int 0, .int (nI j), .ref 285]) rfl rfl rfl rfl ?_
    refine ax_call (vs := [.ref 285, .int (nI j), .int 0]) (rr := []) rfl rfl rfl ?_
    refine ax_in (ls := [some (.ref 285), some (.int (nI j)), some (.int 0), none]) rfl ?_
    refine ax_s (pc' := 1) (st' := [.ref 285]) rfl rfl rfl rfl ?_
    refine ax_get rfl (hh_285 _ _ _) rfl rfl rfl ?_
    show am_ex (d + 3) 223 4 [some (.ref 285), some (.int (nI j)), some (.int 0), none] [.ref 290] (am_hh X S L) _
    refine ax_s (pc' := 5) (st' := [.int (nI j), .ref 290]) rfl rfl rfl rfl ?_
    refine ax_ald (j := j) (v := 4) rfl (hh_290 _ _ _) rfl rfl (x1 c1) (by decide) hk ?_
    refine ax_s (pc' := 7) (ls' := [some (.ref 285), some (.int (nI j)), some (.int 0), some (.int 4)]) (st' := []) rfl rfl rfl rfl ?_
    refine ax_s (pc' := 8) (st' := [.int 0]) rfl rfl rfl rfl ?_
    refine ax_if_eq rfl (fun c3 => ?_) (fun c3 => False.elim (by revert c3; decide))
    refine ax_s (pc' := 37) (st' := [.int 1]) rfl rfl rfl rfl ?_
    refine ax_s (pc' := 41) (st' := [.int 1]) rfl rfl rfl rfl ?_
    refine ax_rb (b := true) rfl rfl ?_
    show am_ex (d + 4) 222 26 [some (.ref 285), some (.int (nI j)), some (.int 0)] [.int 1] (am_hh X S L) _
    refine ax_if_ne rfl (fun c4 => ?_) (fun c4 => False.elim (by revert c4; decide))
    refine ax_s (pc' := 36) (st' := [.ref 285]) rfl rfl rfl rfl ?_
    refine ax_s (pc' := 37) (st' := [.int 0, .ref 285]) rfl rfl rfl rfl ?_
    refine ax_put rfl (hh_285 _ _ _) rfl rfl (show 3 + 1 ≤ _ from Nat.le_of_ble_eq_true rfl) rfl (am_hh_set _ _ _ 285 3 _ rfl) ?_
    refine ax_s (pc' := 41) (st' := [.int (nI j)]) rfl rfl rfl rfl ?_
    refine ax_r rfl rfl rfl ?_
    exact k2 c1
theorem wk_as_4_1 {d : Nat} {X : Nat × (Nat → Int32)} {S : Nat → Nat → Int32} {L : Nat → Int64} {j : Nat} {Q : Option Value → am_H → Prop} (hk : S 22 j = 4) (hj : j < 6)  (x1 : ¬ (nI j) < 0 ∧ ¬ (S 20 4) ≤ (nI j) → j < 6) (k1 : ¬ (¬ (nI j) < 0 ∧ ¬ (S 20 4) ≤ (nI j)) → Q (some (.int (-1000001))) (am_hh X S L)) (k2 : ¬ (nI j) < 0 ∧ ¬ (S 20 4) ≤ (nI j) → Q (some (.int (-1000013))) (am_hh X (am_u S 5 12 3) L)) : am_mt (d + 4) 133 [.ref 5, .int (nI j), .int 1] (am_hh X S L) Q := by
  refine ax_in (ls := [some (.ref 5), some (.int (nI j)), some (.int 1)]) rfl ?_
  refine ax_s (pc' := 1) (st' := [.ref 5]) rfl rfl rfl rfl ?_
  refine ax_get rfl (hh_5 _ _ _) rfl rfl rfl ?_
  show am_ex (d + 4) 133 4 [some (.ref 5), some (.int (nI j)), some (.int 1)] [.ref 20] (am_hh X S L) _
  refine ax_s (pc' := 5) (st' := [.int (nI j), .ref 20]) rfl rfl rfl rfl ?_
  refine ax_call (vs := [.ref 20, .int (nI j)]) (rr := []) rfl rfl rfl ?_
  refine kw (am_hh_sub isW20 X S L) (am_hh_sub isW20 X S L).symm (fun _ => ct_hasParty (am_isW_k isW20 X S L)) ?_
  show am_ex (d + 4) 133 8 [some (.ref 5), some (.int (nI j)), some (.int 1)] [.int (bI (decide (¬ (nI j) < 0 ∧ ¬ (S 20 4) ≤ (nI j))))] (am_hh X S L) _
  refine ax_pF rfl (fun c1 => ?_) (fun c1 => ?_)
  · refine ax_s (pc' := 22) (st' := [.int (-1000001)]) rfl rfl rfl rfl ?_
    refine ax_r rfl rfl rfl ?_
    exact k1 c1
  · refine ax_s (pc' := 12) (st' := [.int 1]) rfl rfl rfl rfl ?_
    refine ax_s (pc' := 13) (st' := [.int 0, .int 1]) rfl rfl rfl rfl ?_
    refine ax_s (pc' := 14) (st' := [.int 5, .int 0, .int 1]) rfl rfl rfl rfl ?_
    refine ax_call (vs := [.int 1, .int 0, .int 5]) (rr := []) rfl rfl rfl ?_
    refine ct_isOutside ?_
    show am_ex (d + 4) 133 17 [some (.ref 5), some (.int (nI j)), some (.int 1)] [.int 0] (am_hh X S L) _
    refine ax_if_eq rfl (fun c2 => ?_) (fun c2 => False.elim (by revert c2; decide))
    refine ax_s (pc' := 24) (st' := [.ref 5]) rfl rfl rfl rfl ?_
    refine ax_get rfl (hh_5 _ _ _) rfl rfl rfl ?_
    show am_ex (d + 4) 133 27 [some (.ref 5), some (.int (nI j)), some (.int 1)] [.ref 20] (am_hh X S L) _
    refine ax_get rfl (hh_20 _ _ _) rfl rfl rfl ?_
    show am_ex (d + 4) 133 30 [some (.ref 5), some (.int (nI j)), some (.int 1)] [.ref 22] (am_hh X S L) _
    refine ax_s (pc' := 31) (st' := [.int (nI j), .ref 22]) rfl rfl rfl rfl ?_
    refine ax_ald (j := j) (v := 4) rfl (hh_22 _ _ _) rfl rfl (x1 c1) (by decide) hk ?_
    refine ax_s (pc' := 33) (st' := [.int 1, .int 4]) rfl rfl rfl rfl ?_
    refine ax_call (vs := [.int 4, .int 1]) (rr := []) rfl rfl rfl ?_
    refine kt_isSuch_4_1 ?_
    show am_ex (d + 4) 133 36 [some (.ref 5), some (.int (nI j)), some (.int 1)] [.int 0] (am_hh X S L) _
    refine ax_if_ne rfl (fun c3 => False.elim (by revert c3; decide)) (fun c3 => ?_)
    refine ax_s (pc' := 40) (st' := [.ref 5]) rfl rfl rfl rfl ?_
    refine ax_s (pc' := 41) (st' := [.int 3, .ref 5]) rfl rfl rfl rfl ?_
    refine ax_call (vs := [.ref 5, .int 3]) (rr := []) rfl rfl rfl ?_
    refine ax_in (ls := [some (.ref 5), some (.int 3)]) rfl ?_
    refine ax_s (pc' := 1) (st' := [.ref 5]) rfl rfl rfl rfl ?_
    refine ax_s (pc' := 2) (st' := [.int 3, .ref 5]) rfl rfl rfl rfl ?_
    refine ax_put rfl (hh_5 _ _ _) rfl rfl (show 12 + 1 ≤ _ from Nat.le_of_ble_eq_true rfl) rfl (am_hh_set _ _ _ 5 12 _ rfl) ?_
    refine ax_s (pc' := 8) (st' := [.int (-1000010)]) rfl rfl rfl rfl ?_
    refine ax_s (pc' := 9) (st' := [.int 3, .int (-1000010)]) rfl rfl rfl rfl ?_
    refine ax_s (pc' := 10) (st' := [.int (-1000013)]) rfl rfl rfl rfl ?_
    refine ax_r rfl rfl rfl ?_
    show am_ex (d + 4) 133 44 [some (.ref 5), some (.int (nI j)), some (.int 1)] [.int (-1000013)] (am_hh X (am_u S 5 12 3) L) _
    refine ax_r rfl rfl rfl ?_
    exact k2 c1
theorem wm_as_4_1 {d : Nat} {X : Nat × (Nat → Int32)} {S : Nat → Nat → Int32} {L : Nat → Int64} {j : Nat} {Q : Option Value → am_H → Prop} (hk : S 290 j = 4) (hj : j < 6)  (x1 : ¬ (nI j) < 0 ∧ ¬ (S 285 7) - 1 < (nI j) → j < 6) (k1 : ¬ (¬ (nI j) < 0 ∧ ¬ (S 285 7) - 1 < (nI j)) → Q (some (.int (-1000001))) (am_hh X S L)) (k2 : ¬ (nI j) < 0 ∧ ¬ (S 285 7) - 1 < (nI j) → Q (some (.int (-1000013))) (am_hh X (am_u S 285 3 3) L)) : am_mt (d + 4) 222 [.ref 285, .int (nI j), .int 1] (am_hh X S L) Q := by
  refine ax_in (ls := [some (.ref 285), some (.int (nI j)), some (.int 1)]) rfl ?_
  refine ax_s (pc' := 1) (st' := [.ref 285]) rfl rfl rfl rfl ?_
  refine ax_s (pc' := 2) (st' := [.int (nI j), .ref 285]) rfl rfl rfl rfl ?_
  refine ax_call (vs := [.ref 285, .int (nI j)]) (rr := []) rfl rfl rfl ?_
  refine mt_isParty  ?_
  show am_ex (d + 4) 222 5 [some (.ref 285), some (.int (nI j)), some (.int 1)] [.int (bI (decide (¬ (nI j) < 0 ∧ ¬ (S 285 7) - 1 < (nI j))))] (am_hh X S L) _
  refine ax_pF rfl (fun c1 => ?_) (fun c1 => ?_)
  · refine ax_s (pc' := 19) (st' := [.int (-1000001)]) rfl rfl rfl rfl ?_
    refine ax_r rfl rfl rfl ?_
    exact k1 c1
  · refine ax_s (pc' := 9) (st' := [.int 1]) rfl rfl rfl rfl ?_
    refine ax_s (pc' := 10) (st' := [.int 0, .int 1]) rfl rfl rfl rfl ?_
    refine ax_s (pc' := 11) (st' := [.int 5, .int 0, .int 1]) rfl rfl rfl rfl ?_
    refine ax_call (vs := [.int 1, .int 0, .int 5]) (rr := []) rfl rfl rfl ?_
    refine mt_in ?_
    show am_ex (d + 4) 222 14 [some (.ref 285), some (.int (nI j)), some (.int 1)] [.int 1] (am_hh X S L) _
    refine ax_if_ne rfl (fun c2 => ?_) (fun c2 => False.elim (by revert c2; decide))
    refine ax_s (pc' := 21) (st' := [.ref 285]) rfl rfl rfl rfl ?_
    refine ax_s (pc' := 22) (st' := [.int (nI j), .ref 285]) rfl rfl rfl rfl ?_
    refine ax_s (pc' := 23) (st' := [.int 1, .int (nI j), .ref 285]) rfl rfl rfl rfl ?_
    refine ax_call (vs := [.ref 285, .int (nI j), .int 1]) (rr := []) rfl rfl rfl ?_
    refine ax_in (ls := [some (.ref 285), some (.int (nI j)), some (.int 1), none]) rfl ?_
    refine ax_s (pc' := 1) (st' := [.ref 285]) rfl rfl rfl rfl ?_
    refine ax_get rfl (hh_285 _ _ _) rfl rfl rfl ?_
    show am_ex (d + 3) 223 4 [some (.ref 285), some (.int (nI j)), some (.int 1), none] [.ref 290] (am_hh X S L) _
    refine ax_s (pc' := 5) (st' := [.int (nI j), .ref 290]) rfl rfl rfl rfl ?_
    refine ax_ald (j := j) (v := 4) rfl (hh_290 _ _ _) rfl rfl (x1 c1) (by decide) hk ?_
    refine ax_s (pc' := 7) (ls' := [some (.ref 285), some (.int (nI j)), some (.int 1), some (.int 4)]) (st' := []) rfl rfl rfl rfl ?_
    refine ax_s (pc' := 8) (st' := [.int 1]) rfl rfl rfl rfl ?_
    refine ax_if_eq rfl (fun c3 => False.elim (by revert c3; decide)) (fun c3 => ?_)
    refine ax_s (pc' := 12) (st' := [.int 1]) rfl rfl rfl rfl ?_
    refine ax_s (pc' := 13) (st' := [.int 4, .int 1]) rfl rfl rfl rfl ?_
    refine ax_cmp_eq rfl (fun c4 => False.elim (by revert c4; decide)) (fun c4 => ?_)
    refine ax_s (pc' := 17) (st' := [.int 1]) rfl rfl rfl rfl ?_
    refine ax_s (pc' := 18) (st' := [.int 1, .int 1]) rfl rfl rfl rfl ?_
    refine ax_cmp_ne rfl (fun c5 => False.elim (by revert c5; decide)) (fun c5 => ?_)
    refine ax_s (pc' := 22) (st' := [.int 4]) rfl rfl rfl rfl ?_
    refine ax_s (pc' := 23) (st' := [.int 4, .int 4]) rfl rfl rfl rfl ?_
    refine ax_cmp_lt rfl (fun c6 => False.elim (by revert c6; decide)) (fun c6 => ?_)
    refine ax_s (pc' := 27) (st' := [.int 1]) rfl rfl rfl rfl ?_
    refine ax_s (pc' := 28) (st' := [.int 4, .int 1]) rfl rfl rfl rfl ?_
    refine ax_cmp_ne rfl (fun c7 => ?_) (fun c7 => False.elim (by revert c7; decide))
    refine ax_s (pc' := 41) (st' := [.int 0]) rfl rfl rfl rfl ?_
    refine ax_rb (b := false) rfl rfl ?_
    show am_ex (d + 4) 222 26 [some (.ref 285), some (.int (nI j)), some (.int 1)] [.int 0] (am_hh X S L) _
    refine ax_if_ne rfl (fun c8 => False.elim (by revert c8; decide)) (fun c8 => ?_)
    refine ax_s (pc' := 30) (st' := [.ref 285]) rfl rfl rfl rfl ?_
    refine ax_s (pc' := 31) (st' := [.int 3, .ref 285]) rfl rfl rfl rfl ?_
    refine ax_call (vs := [.ref 285, .int 3]) (rr := []) rfl rfl rfl ?_
    refine ax_in (ls := [some (.ref 285), some (.int 3)]) rfl ?_
    refine ax_s (pc' := 1) (st' := [.ref 285]) rfl rfl rfl rfl ?_
    refine ax_s (pc' := 2) (st' := [.int 3, .ref 285]) rfl rfl rfl rfl ?_
    refine ax_put rfl (hh_285 _ _ _) rfl rfl (show 3 + 1 ≤ _ from Nat.le_of_ble_eq_true rfl) rfl (am_hh_set _ _ _ 285 3 _ rfl) ?_
    refine ax_s (pc' := 7) (st' := [.int (-1000010)]) rfl rfl rfl rfl ?_
    refine ax_s (pc' := 8) (st' := [.int 3, .int (-1000010)]) rfl rfl rfl rfl ?_
    refine ax_s (pc' := 9) (st' := [.int (-1000013)]) rfl rfl rfl rfl ?_
    refine ax_r rfl rfl rfl ?_
    show am_ex (d + 4) 222 34 [some (.ref 285), some (.int (nI j)), some (.int 1)] [.int (-1000013)] (am_hh X (am_u S 285 3 3) L) _
    refine ax_r rfl rfl rfl ?_
    exact k2 c1
theorem wk_as_4_2 {d : Nat} {X : Nat × (Nat → Int32)} {S : Nat → Nat → Int32} {L : Nat → Int64} {j : Nat} {Q : Option Value → am_H → Prop} (hk : S 22 j = 4) (hj : j < 6)  (x1 : ¬ (nI j) < 0 ∧ ¬ (S 20 4) ≤ (nI j) → j < 6) (k1 : ¬ (¬ (nI j) < 0 ∧ ¬ (S 20 4) ≤ (nI j)) → Q (some (.int (-1000001))) (am_hh X S L)) (k2 : ¬ (nI j) < 0 ∧ ¬ (S 20 4) ≤ (nI j) → Q (some (.int (-1000013))) (am_hh X (am_u S 5 12 3) L)) : am_mt (d + 4) 133 [.ref 5, .int (nI j), .int 2] (am_hh X S L) Q := by
  refine ax_in (ls := [some (.ref 5), some (.int (nI j)), some (.int 2)]) rfl ?_
  refine ax_s (pc' := 1) (st' := [.ref 5]) rfl rfl rfl rfl ?_
  refine ax_get rfl (hh_5 _ _ _) rfl rfl rfl ?_
  show am_ex (d + 4) 133 4 [some (.ref 5), some (.int (nI j)), some (.int 2)] [.ref 20] (am_hh X S L) _
  refine ax_s (pc' := 5) (st' := [.int (nI j), .ref 20]) rfl rfl rfl rfl ?_
  refine ax_call (vs := [.ref 20, .int (nI j)]) (rr := []) rfl rfl rfl ?_
  refine kw (am_hh_sub isW20 X S L) (am_hh_sub isW20 X S L).symm (fun _ => ct_hasParty (am_isW_k isW20 X S L)) ?_
  show am_ex (d + 4) 133 8 [some (.ref 5), some (.int (nI j)), some (.int 2)] [.int (bI (decide (¬ (nI j) < 0 ∧ ¬ (S 20 4) ≤ (nI j))))] (am_hh X S L) _
  refine ax_pF rfl (fun c1 => ?_) (fun c1 => ?_)
  · refine ax_s (pc' := 22) (st' := [.int (-1000001)]) rfl rfl rfl rfl ?_
    refine ax_r rfl rfl rfl ?_
    exact k1 c1
  · refine ax_s (pc' := 12) (st' := [.int 2]) rfl rfl rfl rfl ?_
    refine ax_s (pc' := 13) (st' := [.int 0, .int 2]) rfl rfl rfl rfl ?_
    refine ax_s (pc' := 14) (st' := [.int 5, .int 0, .int 2]) rfl rfl rfl rfl ?_
    refine ax_call (vs := [.int 2, .int 0, .int 5]) (rr := []) rfl rfl rfl ?_
    refine ct_isOutside ?_
    show am_ex (d + 4) 133 17 [some (.ref 5), some (.int (nI j)), some (.int 2)] [.int 0] (am_hh X S L) _
    refine ax_if_eq rfl (fun c2 => ?_) (fun c2 => False.elim (by revert c2; decide))
    refine ax_s (pc' := 24) (st' := [.ref 5]) rfl rfl rfl rfl ?_
    refine ax_get rfl (hh_5 _ _ _) rfl rfl rfl ?_
    show am_ex (d + 4) 133 27 [some (.ref 5), some (.int (nI j)), some (.int 2)] [.ref 20] (am_hh X S L) _
    refine ax_get rfl (hh_20 _ _ _) rfl rfl rfl ?_
    show am_ex (d + 4) 133 30 [some (.ref 5), some (.int (nI j)), some (.int 2)] [.ref 22] (am_hh X S L) _
    refine ax_s (pc' := 31) (st' := [.int (nI j), .ref 22]) rfl rfl rfl rfl ?_
    refine ax_ald (j := j) (v := 4) rfl (hh_22 _ _ _) rfl rfl (x1 c1) (by decide) hk ?_
    refine ax_s (pc' := 33) (st' := [.int 2, .int 4]) rfl rfl rfl rfl ?_
    refine ax_call (vs := [.int 4, .int 2]) (rr := []) rfl rfl rfl ?_
    refine kt_isSuch_4_2 ?_
    show am_ex (d + 4) 133 36 [some (.ref 5), some (.int (nI j)), some (.int 2)] [.int 0] (am_hh X S L) _
    refine ax_if_ne rfl (fun c3 => False.elim (by revert c3; decide)) (fun c3 => ?_)
    refine ax_s (pc' := 40) (st' := [.ref 5]) rfl rfl rfl rfl ?_
    refine ax_s (pc' := 41) (st' := [.int 3, .ref 5]) rfl rfl rfl rfl ?_
    refine ax_call (vs := [.ref 5, .int 3]) (rr := []) rfl rfl rfl ?_
    refine ax_in (ls := [some (.ref 5), some (.int 3)]) rfl ?_
    refine ax_s (pc' := 1) (st' := [.ref 5]) rfl rfl rfl rfl ?_
    refine ax_s (pc' := 2) (st' := [.int 3, .ref 5]) rfl rfl rfl rfl ?_
    refine ax_put rfl (hh_5 _ _ _) rfl rfl (show 12 + 1 ≤ _ from Nat.le_of_ble_eq_true rfl) rfl (am_hh_set _ _ _ 5 12 _ rfl) ?_
    refine ax_s (pc' := 8) (st' := [.int (-1000010)]) rfl rfl rfl rfl ?_
    refine ax_s (pc' := 9) (st' := [.int 3, .int (-1000010)]) rfl rfl rfl rfl ?_
    refine ax_s (pc' := 10) (st' := [.int (-1000013)]) rfl rfl rfl rfl ?_
    refine ax_r rfl rfl rfl ?_
    show am_ex (d + 4) 133 44 [some (.ref 5), some (.int (nI j)), some (.int 2)] [.int (-1000013)] (am_hh X (am_u S 5 12 3) L) _
    refine ax_r rfl rfl rfl ?_
    exact k2 c1
theorem wm_as_4_2 {d : Nat} {X : Nat × (Nat → Int32)} {S : Nat → Nat → Int32} {L : Nat → Int64} {j : Nat} {Q : Option Value → am_H → Prop} (hk : S 290 j = 4) (hj : j < 6)  (x1 : ¬ (nI j) < 0 ∧ ¬ (S 285 7) - 1 < (nI j) → j < 6) (k1 : ¬ (¬ (nI j) < 0 ∧ ¬ (S 285 7) - 1 < (nI j)) → Q (some (.int (-1000001))) (am_hh X S L)) (k2 : ¬ (nI j) < 0 ∧ ¬ (S 285 7) - 1 < (nI j) → Q (some (.int (-1000013))) (am_hh X (am_u S 285 3 3) L)) : am_mt (d + 4) 222 [.ref 285, .int (nI j), .int 2] (am_hh X S L) Q := by
  refine ax_in (ls := [some (.ref 285), some (.int (nI j)), some (.int 2)]) rfl ?_
  refine ax_s (pc' := 1) (st' := [.ref 285]) rfl rfl rfl rfl ?_
  refine ax_s (pc' := 2) (st' := [.int (nI j), .ref 285]) rfl rfl rfl rfl ?_
  refine ax_call (vs := [.ref 285, .int (nI j)]) (rr := []) rfl rfl rfl ?_
  refine mt_isParty  ?_
  show am_ex (d + 4) 222 5 [some (.ref 285), some (.int (nI j)), some (.int 2)] [.int (bI (decide (¬ (nI j) < 0 ∧ ¬ (S 285 7) - 1 < (nI j))))] (am_hh X S L) _
  refine ax_pF rfl (fun c1 => ?_) (fun c1 => ?_)
  · refine ax_s (pc' := 19) (st' := [.int (-1000001)]) rfl rfl rfl rfl ?_
    refine ax_r rfl rfl rfl ?_
    exact k1 c1
  · refine ax_s (pc' := 9) (st' := [.int 2]) rfl rfl rfl rfl ?_
    refine ax_s (pc' := 10) (st' := [.int 0, .int 2]) rfl rfl rfl rfl ?_
    refine ax_s (pc' := 11) (st' := [.int 5, .int 0, .int 2]) rfl rfl rfl rfl ?_
    refine ax_call (vs := [.int 2, .int 0, .int 5]) (rr := []) rfl rfl rfl ?_
    refine mt_in ?_
    show am_ex (d + 4) 222 14 [some (.ref 285), some (.int (nI j)), some (.int 2)] [.int 1] (am_hh X S L) _
    refine ax_if_ne rfl (fun c2 => ?_) (fun c2 => False.elim (by revert c2; decide))
    refine ax_s (pc' := 21) (st' := [.ref 285]) rfl rfl rfl rfl ?_
    refine ax_s (pc' := 22) (st' := [.int (nI j), .ref 285]) rfl rfl rfl rfl ?_
    refine ax_s (pc' := 23) (st' := [.int 2, .int (nI j), .ref 285]) rfl rfl rfl rfl ?_
    refine ax_call (vs := [.ref 285, .int (nI j), .int 2]) (rr := []) rfl rfl rfl ?_
    refine ax_in (ls := [some (.ref 285), some (.int (nI j)), some (.int 2), none]) rfl ?_
    refine ax_s (pc' := 1) (st' := [.ref 285]) rfl rfl rfl rfl ?_
    refine ax_get rfl (hh_285 _ _ _) rfl rfl rfl ?_
    show am_ex (d + 3) 223 4 [some (.ref 285), some (.int (nI j)), some (.int 2), none] [.ref 290] (am_hh X S L) _
    refine ax_s (pc' := 5) (st' := [.int (nI j), .ref 290]) rfl rfl rfl rfl ?_
    refine ax_ald (j := j) (v := 4) rfl (hh_290 _ _ _) rfl rfl (x1 c1) (by decide) hk ?_
    refine ax_s (pc' := 7) (ls' := [some (.ref 285), some (.int (nI j)), some (.int 2), some (.int 4)]) (st' := []) rfl rfl rfl rfl ?_
    refine ax_s (pc' := 8) (st' := [.int 2]) rfl rfl rfl rfl ?_
    refine ax_if_eq rfl (fun c3 => False.elim (by revert c3; decide)) (fun c3 => ?_)
    refine ax_s (pc' := 12) (st' := [.int 2]) rfl rfl rfl rfl ?_
    refine ax_s (pc' := 13) (st' := [.int 4, .int 2]) rfl rfl rfl rfl ?_
    refine ax_cmp_eq rfl (fun c4 => False.elim (by revert c4; decide)) (fun c4 => ?_)
    refine ax_s (pc' := 17) (st' := [.int 2]) rfl rfl rfl rfl ?_
    refine ax_s (pc' := 18) (st' := [.int 1, .int 2]) rfl rfl rfl rfl ?_
    refine ax_cmp_ne rfl (fun c5 => ?_) (fun c5 => False.elim (by revert c5; decide))
    refine ax_s (pc' := 27) (st' := [.int 2]) rfl rfl rfl rfl ?_
    refine ax_s (pc' := 28) (st' := [.int 4, .int 2]) rfl rfl rfl rfl ?_
    refine ax_cmp_ne rfl (fun c6 => ?_) (fun c6 => False.elim (by revert c6; decide))
    refine ax_s (pc' := 41) (st' := [.int 0]) rfl rfl rfl rfl ?_
    refine ax_rb (b := false) rfl rfl ?_
    show am_ex (d + 4) 222 26 [some (.ref 285), some (.int (nI j)), some (.int 2)] [.int 0] (am_hh X S L) _
    refine ax_if_ne rfl (fun c7 => False.elim (by revert c7; decide)) (fun c7 => ?_)
    refine ax_s (pc' := 30) (st' := [.ref 285]) rfl rfl rfl rfl ?_
    refine ax_s (pc' := 31) (st' := [.int 3, .ref 285]) rfl rfl rfl rfl ?_
    refine ax_call (vs := [.ref 285, .int 3]) (rr := []) rfl rfl rfl ?_
    refine ax_in (ls := [some (.ref 285), some (.int 3)]) rfl ?_
    refine ax_s (pc' := 1) (st' := [.ref 285]) rfl rfl rfl rfl ?_
    refine ax_s (pc' := 2) (st' := [.int 3, .ref 285]) rfl rfl rfl rfl ?_
    refine ax_put rfl (hh_285 _ _ _) rfl rfl (show 3 + 1 ≤ _ from Nat.le_of_ble_eq_true rfl) rfl (am_hh_set _ _ _ 285 3 _ rfl) ?_
    refine ax_s (pc' := 7) (st' := [.int (-1000010)]) rfl rfl rfl rfl ?_
    refine ax_s (pc' := 8) (st' := [.int 3, .int (-1000010)]) rfl rfl rfl rfl ?_
    refine ax_s (pc' := 9) (st' := [.int (-1000013)]) rfl rfl rfl rfl ?_
    refine ax_r rfl rfl rfl ?_
    show am_ex (d + 4) 222 34 [some (.ref 285), some (.int (nI j)), some (.int 2)] [.int (-1000013)] (am_hh X (am_u S 285 3 3) L) _
    refine ax_r rfl rfl rfl ?_
    exact k2 c1
theorem wk_as_4_3 {d : Nat} {X : Nat × (Nat → Int32)} {S : Nat → Nat → Int32} {L : Nat → Int64} {j : Nat} {Q : Option Value → am_H → Prop} (hk : S 22 j = 4) (hj : j < 6)  (x1 : ¬ (nI j) < 0 ∧ ¬ (S 20 4) ≤ (nI j) → j < 6) (k1 : ¬ (¬ (nI j) < 0 ∧ ¬ (S 20 4) ≤ (nI j)) → Q (some (.int (-1000001))) (am_hh X S L)) (k2 : ¬ (nI j) < 0 ∧ ¬ (S 20 4) ≤ (nI j) → Q (some (.int (-1000013))) (am_hh X (am_u S 5 12 3) L)) : am_mt (d + 4) 133 [.ref 5, .int (nI j), .int 3] (am_hh X S L) Q := by
  refine ax_in (ls := [some (.ref 5), some (.int (nI j)), some (.int 3)]) rfl ?_
  refine ax_s (pc' := 1) (st' := [.ref 5]) rfl rfl rfl rfl ?_
  refine ax_get rfl (hh_5 _ _ _) rfl rfl rfl ?_
  show am_ex (d + 4) 133 4 [some (.ref 5), some (.int (nI j)), some (.int 3)] [.ref 20] (am_hh X S L) _
  refine ax_s (pc' := 5) (st' := [.int (nI j), .ref 20]) rfl rfl rfl rfl ?_
  refine ax_call (vs := [.ref 20, .int (nI j)]) (rr := []) rfl rfl rfl ?_
  refine kw (am_hh_sub isW20 X S L) (am_hh_sub isW20 X S L).symm (fun _ => ct_hasParty (am_isW_k isW20 X S L)) ?_
  show am_ex (d + 4) 133 8 [some (.ref 5), some (.int (nI j)), some (.int 3)] [.int (bI (decide (¬ (nI j) < 0 ∧ ¬ (S 20 4) ≤ (nI j))))] (am_hh X S L) _
  refine ax_pF rfl (fun c1 => ?_) (fun c1 => ?_)
  · refine ax_s (pc' := 22) (st' := [.int (-1000001)]) rfl rfl rfl rfl ?_
    refine ax_r rfl rfl rfl ?_
    exact k1 c1
  · refine ax_s (pc' := 12) (st' := [.int 3]) rfl rfl rfl rfl ?_
    refine ax_s (pc' := 13) (st' := [.int 0, .int 3]) rfl rfl rfl rfl ?_
    refine ax_s (pc' := 14) (st' := [.int 5, .int 0, .int 3]) rfl rfl rfl rfl ?_
    refine ax_call (vs := [.int 3, .int 0, .int 5]) (rr := []) rfl rfl rfl ?_
    refine ct_isOutside ?_
    show am_ex (d + 4) 133 17 [some (.ref 5), some (.int (nI j)), some (.int 3)] [.int 0] (am_hh X S L) _
    refine ax_if_eq rfl (fun c2 => ?_) (fun c2 => False.elim (by revert c2; decide))
    refine ax_s (pc' := 24) (st' := [.ref 5]) rfl rfl rfl rfl ?_
    refine ax_get rfl (hh_5 _ _ _) rfl rfl rfl ?_
    show am_ex (d + 4) 133 27 [some (.ref 5), some (.int (nI j)), some (.int 3)] [.ref 20] (am_hh X S L) _
    refine ax_get rfl (hh_20 _ _ _) rfl rfl rfl ?_
    show am_ex (d + 4) 133 30 [some (.ref 5), some (.int (nI j)), some (.int 3)] [.ref 22] (am_hh X S L) _
    refine ax_s (pc' := 31) (st' := [.int (nI j), .ref 22]) rfl rfl rfl rfl ?_
    refine ax_ald (j := j) (v := 4) rfl (hh_22 _ _ _) rfl rfl (x1 c1) (by decide) hk ?_
    refine ax_s (pc' := 33) (st' := [.int 3, .int 4]) rfl rfl rfl rfl ?_
    refine ax_call (vs := [.int 4, .int 3]) (rr := []) rfl rfl rfl ?_
    refine kt_isSuch_4_3 ?_
    show am_ex (d + 4) 133 36 [some (.ref 5), some (.int (nI j)), some (.int 3)] [.int 0] (am_hh X S L) _
    refine ax_if_ne rfl (fun c3 => False.elim (by revert c3; decide)) (fun c3 => ?_)
    refine ax_s (pc' := 40) (st' := [.ref 5]) rfl rfl rfl rfl ?_
    refine ax_s (pc' := 41) (st' := [.int 3, .ref 5]) rfl rfl rfl rfl ?_
    refine ax_call (vs := [.ref 5, .int 3]) (rr := []) rfl rfl rfl ?_
    refine ax_in (ls := [some (.ref 5), some (.int 3)]) rfl ?_
    refine ax_s (pc' := 1) (st' := [.ref 5]) rfl rfl rfl rfl ?_
    refine ax_s (pc' := 2) (st' := [.int 3, .ref 5]) rfl rfl rfl rfl ?_
    refine ax_put rfl (hh_5 _ _ _) rfl rfl (show 12 + 1 ≤ _ from Nat.le_of_ble_eq_true rfl) rfl (am_hh_set _ _ _ 5 12 _ rfl) ?_
    refine ax_s (pc' := 8) (st' := [.int (-1000010)]) rfl rfl rfl rfl ?_
    refine ax_s (pc' := 9) (st' := [.int 3, .int (-1000010)]) rfl rfl rfl rfl ?_
    refine ax_s (pc' := 10) (st' := [.int (-1000013)]) rfl rfl rfl rfl ?_
    refine ax_r rfl rfl rfl ?_
    show am_ex (d + 4) 133 44 [some (.ref 5), some (.int (nI j)), some (.int 3)] [.int (-1000013)] (am_hh X (am_u S 5 12 3) L) _
    refine ax_r rfl rfl rfl ?_
    exact k2 c1
theorem wm_as_4_3 {d : Nat} {X : Nat × (Nat → Int32)} {S : Nat → Nat → Int32} {L : Nat → Int64} {j : Nat} {Q : Option Value → am_H → Prop} (hk : S 290 j = 4) (hj : j < 6)  (x1 : ¬ (nI j) < 0 ∧ ¬ (S 285 7) - 1 < (nI j) → j < 6) (k1 : ¬ (¬ (nI j) < 0 ∧ ¬ (S 285 7) - 1 < (nI j)) → Q (some (.int (-1000001))) (am_hh X S L)) (k2 : ¬ (nI j) < 0 ∧ ¬ (S 285 7) - 1 < (nI j) → Q (some (.int (-1000013))) (am_hh X (am_u S 285 3 3) L)) : am_mt (d + 4) 222 [.ref 285, .int (nI j), .int 3] (am_hh X S L) Q := by
  refine ax_in (ls := [some (.ref 285), some (.int (nI j)), some (.int 3)]) rfl ?_
  refine ax_s (pc' := 1) (st' := [.ref 285]) rfl rfl rfl rfl ?_
  refine ax_s (pc' := 2) (st' := [.int (nI j), .ref 285]) rfl rfl rfl rfl ?_
  refine ax_call (vs := [.ref 285, .int (nI j)]) (rr := []) rfl rfl rfl ?_
  refine mt_isParty  ?_
  show am_ex (d + 4) 222 5 [some (.ref 285), some (.int (nI j)), some (.int 3)] [.int (bI (decide (¬ (nI j) < 0 ∧ ¬ (S 285 7) - 1 < (nI j))))] (am_hh X S L) _
  refine ax_pF rfl (fun c1 => ?_) (fun c1 => ?_)
  · refine ax_s (pc' := 19) (st' := [.int (-1000001)]) rfl rfl rfl rfl ?_
    refine ax_r rfl rfl rfl ?_
    exact k1 c1
  · refine ax_s (pc' := 9) (st' := [.int 3]) rfl rfl rfl rfl ?_
    refine ax_s (pc' := 10) (st' := [.int 0, .int 3]) rfl rfl rfl rfl ?_
    refine ax_s (pc' := 11) (st' := [.int 5, .int 0, .int 3]) rfl rfl rfl rfl ?_
    refine ax_call (vs := [.int 3, .int 0, .int 5]) (rr := []) rfl rfl rfl ?_
    refine mt_in ?_
    show am_ex (d + 4) 222 14 [some (.ref 285), some (.int (nI j)), some (.int 3)] [.int 1] (am_hh X S L) _
    refine ax_if_ne rfl (fun c2 => ?_) (fun c2 => False.elim (by revert c2; decide))
    refine ax_s (pc' := 21) (st' := [.ref 285]) rfl rfl rfl rfl ?_
    refine ax_s (pc' := 22) (st' := [.int (nI j), .ref 285]) rfl rfl rfl rfl ?_
    refine ax_s (pc' := 23) (st' := [.int 3, .int (nI j), .ref 285]) rfl rfl rfl rfl ?_
    refine ax_call (vs := [.ref 285, .int (nI j), .int 3]) (rr := []) rfl rfl rfl ?_
    refine ax_in (ls := [some (.ref 285), some (.int (nI j)), some (.int 3), none]) rfl ?_
    refine ax_s (pc' := 1) (st' := [.ref 285]) rfl rfl rfl rfl ?_
    refine ax_get rfl (hh_285 _ _ _) rfl rfl rfl ?_
    show am_ex (d + 3) 223 4 [some (.ref 285), some (.int (nI j)), some (.int 3), none] [.ref 290] (am_hh X S L) _
    refine ax_s (pc' := 5) (st' := [.int (nI j), .ref 290]) rfl rfl rfl rfl ?_
    refine ax_ald (j := j) (v := 4) rfl (hh_290 _ _ _) rfl rfl (x1 c1) (by decide) hk ?_
    refine ax_s (pc' := 7) (ls' := [some (.ref 285), some (.int (nI j)), some (.int 3), some (.int 4)]) (st' := []) rfl rfl rfl rfl ?_
    refine ax_s (pc' := 8) (st' := [.int 3]) rfl rfl rfl rfl ?_
    refine ax_if_eq rfl (fun c3 => False.elim (by revert c3; decide)) (fun c3 => ?_)
    refine ax_s (pc' := 12) (st' := [.int 3]) rfl rfl rfl rfl ?_
    refine ax_s (pc' := 13) (st' := [.int 4, .int 3]) rfl rfl rfl rfl ?_
    refine ax_cmp_eq rfl (fun c4 => False.elim (by revert c4; decide)) (fun c4 => ?_)
    refine ax_s (pc' := 17) (st' := [.int 3]) rfl rfl rfl rfl ?_
    refine ax_s (pc' := 18) (st' := [.int 1, .int 3]) rfl rfl rfl rfl ?_
    refine ax_cmp_ne rfl (fun c5 => ?_) (fun c5 => False.elim (by revert c5; decide))
    refine ax_s (pc' := 27) (st' := [.int 3]) rfl rfl rfl rfl ?_
    refine ax_s (pc' := 28) (st' := [.int 4, .int 3]) rfl rfl rfl rfl ?_
    refine ax_cmp_ne rfl (fun c6 => ?_) (fun c6 => False.elim (by revert c6; decide))
    refine ax_s (pc' := 41) (st' := [.int 0]) rfl rfl rfl rfl ?_
    refine ax_rb (b := false) rfl rfl ?_
    show am_ex (d + 4) 222 26 [some (.ref 285), some (.int (nI j)), some (.int 3)] [.int 0] (am_hh X S L) _
    refine ax_if_ne rfl (fun c7 => False.elim (by revert c7; decide)) (fun c7 => ?_)
    refine ax_s (pc' := 30) (st' := [.ref 285]) rfl rfl rfl rfl ?_
    refine ax_s (pc' := 31) (st' := [.int 3, .ref 285]) rfl rfl rfl rfl ?_
    refine ax_call (vs := [.ref 285, .int 3]) (rr := []) rfl rfl rfl ?_
    refine ax_in (ls := [some (.ref 285), some (.int 3)]) rfl ?_
    refine ax_s (pc' := 1) (st' := [.ref 285]) rfl rfl rfl rfl ?_
    refine ax_s (pc' := 2) (st' := [.int 3, .ref 285]) rfl rfl rfl rfl ?_
    refine ax_put rfl (hh_285 _ _ _) rfl rfl (show 3 + 1 ≤ _ from Nat.le_of_ble_eq_true rfl) rfl (am_hh_set _ _ _ 285 3 _ rfl) ?_
    refine ax_s (pc' := 7) (st' := [.int (-1000010)]) rfl rfl rfl rfl ?_
    refine ax_s (pc' := 8) (st' := [.int 3, .int (-1000010)]) rfl rfl rfl rfl ?_
    refine ax_s (pc' := 9) (st' := [.int (-1000013)]) rfl rfl rfl rfl ?_
    refine ax_r rfl rfl rfl ?_
    show am_ex (d + 4) 222 34 [some (.ref 285), some (.int (nI j)), some (.int 3)] [.int (-1000013)] (am_hh X (am_u S 285 3 3) L) _
    refine ax_r rfl rfl rfl ?_
    exact k2 c1
theorem wk_as_4_4 {d : Nat} {X : Nat × (Nat → Int32)} {S : Nat → Nat → Int32} {L : Nat → Int64} {j : Nat} {Q : Option Value → am_H → Prop} (hk : S 22 j = 4) (hj : j < 6)  (x1 : ¬ (nI j) < 0 ∧ ¬ (S 20 4) ≤ (nI j) → j < 6) (k1 : ¬ (¬ (nI j) < 0 ∧ ¬ (S 20 4) ≤ (nI j)) → Q (some (.int (-1000001))) (am_hh X S L)) (k2 : ¬ (nI j) < 0 ∧ ¬ (S 20 4) ≤ (nI j) → Q (some (.int (nI j))) (am_hh X (am_u S 5 12 0) L)) : am_mt (d + 4) 133 [.ref 5, .int (nI j), .int 4] (am_hh X S L) Q := by
  refine ax_in (ls := [some (.ref 5), some (.int (nI j)), some (.int 4)]) rfl ?_
  refine ax_s (pc' := 1) (st' := [.ref 5]) rfl rfl rfl rfl ?_
  refine ax_get rfl (hh_5 _ _ _) rfl rfl rfl ?_
  show am_ex (d + 4) 133 4 [some (.ref 5), some (.int (nI j)), some (.int 4)] [.ref 20] (am_hh X S L) _
  refine ax_s (pc' := 5) (st' := [.int (nI j), .ref 20]) rfl rfl rfl rfl ?_
  refine ax_call (vs := [.ref 20, .int (nI j)]) (rr := []) rfl rfl rfl ?_
  refine kw (am_hh_sub isW20 X S L) (am_hh_sub isW20 X S L).symm (fun _ => ct_hasParty (am_isW_k isW20 X S L)) ?_
  show am_ex (d + 4) 133 8 [some (.ref 5), some (.int (nI j)), some (.int 4)] [.int (bI (decide (¬ (nI j) < 0 ∧ ¬ (S 20 4) ≤ (nI j))))] (am_hh X S L) _
  refine ax_pF rfl (fun c1 => ?_) (fun c1 => ?_)
  · refine ax_s (pc' := 22) (st' := [.int (-1000001)]) rfl rfl rfl rfl ?_
    refine ax_r rfl rfl rfl ?_
    exact k1 c1
  · refine ax_s (pc' := 12) (st' := [.int 4]) rfl rfl rfl rfl ?_
    refine ax_s (pc' := 13) (st' := [.int 0, .int 4]) rfl rfl rfl rfl ?_
    refine ax_s (pc' := 14) (st' := [.int 5, .int 0, .int 4]) rfl rfl rfl rfl ?_
    refine ax_call (vs := [.int 4, .int 0, .int 5]) (rr := []) rfl rfl rfl ?_
    refine ct_isOutside ?_
    show am_ex (d + 4) 133 17 [some (.ref 5), some (.int (nI j)), some (.int 4)] [.int 0] (am_hh X S L) _
    refine ax_if_eq rfl (fun c2 => ?_) (fun c2 => False.elim (by revert c2; decide))
    refine ax_s (pc' := 24) (st' := [.ref 5]) rfl rfl rfl rfl ?_
    refine ax_get rfl (hh_5 _ _ _) rfl rfl rfl ?_
    show am_ex (d + 4) 133 27 [some (.ref 5), some (.int (nI j)), some (.int 4)] [.ref 20] (am_hh X S L) _
    refine ax_get rfl (hh_20 _ _ _) rfl rfl rfl ?_
    show am_ex (d + 4) 133 30 [some (.ref 5), some (.int (nI j)), some (.int 4)] [.ref 22] (am_hh X S L) _
    refine ax_s (pc' := 31) (st' := [.int (nI j), .ref 22]) rfl rfl rfl rfl ?_
    refine ax_ald (j := j) (v := 4) rfl (hh_22 _ _ _) rfl rfl (x1 c1) (by decide) hk ?_
    refine ax_s (pc' := 33) (st' := [.int 4, .int 4]) rfl rfl rfl rfl ?_
    refine ax_call (vs := [.int 4, .int 4]) (rr := []) rfl rfl rfl ?_
    refine kt_isSuch_4_4 ?_
    show am_ex (d + 4) 133 36 [some (.ref 5), some (.int (nI j)), some (.int 4)] [.int 1] (am_hh X S L) _
    refine ax_if_ne rfl (fun c3 => ?_) (fun c3 => False.elim (by revert c3; decide))
    refine ax_s (pc' := 46) (st' := [.ref 5]) rfl rfl rfl rfl ?_
    refine ax_s (pc' := 47) (st' := [.int (nI j), .ref 5]) rfl rfl rfl rfl ?_
    refine ax_call (vs := [.ref 5, .int (nI j)]) (rr := []) rfl rfl rfl ?_
    refine ax_in (ls := [some (.ref 5), some (.int (nI j))]) rfl ?_
    refine ax_s (pc' := 1) (st' := [.ref 5]) rfl rfl rfl rfl ?_
    refine ax_s (pc' := 2) (st' := [.int 0, .ref 5]) rfl rfl rfl rfl ?_
    refine ax_put rfl (hh_5 _ _ _) rfl rfl (show 12 + 1 ≤ _ from Nat.le_of_ble_eq_true rfl) rfl (am_hh_set _ _ _ 5 12 _ rfl) ?_
    refine ax_s (pc' := 6) (st' := [.int (nI j)]) rfl rfl rfl rfl ?_
    refine ax_r rfl rfl rfl ?_
    show am_ex (d + 4) 133 50 [some (.ref 5), some (.int (nI j)), some (.int 4)] [.int (nI j)] (am_hh X (am_u S 5 12 0) L) _
    refine ax_r rfl rfl rfl ?_
    exact k2 c1
theorem wm_as_4_4 {d : Nat} {X : Nat × (Nat → Int32)} {S : Nat → Nat → Int32} {L : Nat → Int64} {j : Nat} {Q : Option Value → am_H → Prop} (hk : S 290 j = 4) (hj : j < 6)  (x1 : ¬ (nI j) < 0 ∧ ¬ (S 285 7) - 1 < (nI j) → j < 6) (k1 : ¬ (¬ (nI j) < 0 ∧ ¬ (S 285 7) - 1 < (nI j)) → Q (some (.int (-1000001))) (am_hh X S L)) (k2 : ¬ (nI j) < 0 ∧ ¬ (S 285 7) - 1 < (nI j) → Q (some (.int (nI j))) (am_hh X (am_u S 285 3 0) L)) : am_mt (d + 4) 222 [.ref 285, .int (nI j), .int 4] (am_hh X S L) Q := by
  refine ax_in (ls := [some (.ref 285), some (.int (nI j)), some (.int 4)]) rfl ?_
  refine ax_s (pc' := 1) (st' := [.ref 285]) rfl rfl rfl rfl ?_
  refine ax_s (pc' := 2) (st' := [.int (nI j), .ref 285]) rfl rfl rfl rfl ?_
  refine ax_call (vs := [.ref 285, .int (nI j)]) (rr := []) rfl rfl rfl ?_
  refine mt_isParty  ?_
  show am_ex (d + 4) 222 5 [some (.ref 285), some (.int (nI j)), some (.int 4)] [.int (bI (decide (¬ (nI j) < 0 ∧ ¬ (S 285 7) - 1 < (nI j))))] (am_hh X S L) _
  refine ax_pF rfl (fun c1 => ?_) (fun c1 => ?_)
  · refine ax_s (pc' := 19) (st' := [.int (-1000001)]) rfl rfl rfl rfl ?_
    refine ax_r rfl rfl rfl ?_
    exact k1 c1
  · refine ax_s (pc' := 9) (st' := [.int 4]) rfl rfl rfl rfl ?_
    refine ax_s (pc' := 10) (st' := [.int 0, .int 4]) rfl rfl rfl rfl ?_
    refine ax_s (pc' := 11) (st' := [.int 5, .int 0, .int 4]) rfl rfl rfl rfl ?_
    refine ax_call (vs := [.int 4, .int 0, .int 5]) (rr := []) rfl rfl rfl ?_
    refine mt_in ?_
    show am_ex (d + 4) 222 14 [some (.ref 285), some (.int (nI j)), some (.int 4)] [.int 1] (am_hh X S L) _
    refine ax_if_ne rfl (fun c2 => ?_) (fun c2 => False.elim (by revert c2; decide))
    refine ax_s (pc' := 21) (st' := [.ref 285]) rfl rfl rfl rfl ?_
    refine ax_s (pc' := 22) (st' := [.int (nI j), .ref 285]) rfl rfl rfl rfl ?_
    refine ax_s (pc' := 23) (st' := [.int 4, .int (nI j), .ref 285]) rfl rfl rfl rfl ?_
    refine ax_call (vs := [.ref 285, .int (nI j), .int 4]) (rr := []) rfl rfl rfl ?_
    refine ax_in (ls := [some (.ref 285), some (.int (nI j)), some (.int 4), none]) rfl ?_
    refine ax_s (pc' := 1) (st' := [.ref 285]) rfl rfl rfl rfl ?_
    refine ax_get rfl (hh_285 _ _ _) rfl rfl rfl ?_
    show am_ex (d + 3) 223 4 [some (.ref 285), some (.int (nI j)), some (.int 4), none] [.ref 290] (am_hh X S L) _
    refine ax_s (pc' := 5) (st' := [.int (nI j), .ref 290]) rfl rfl rfl rfl ?_
    refine ax_ald (j := j) (v := 4) rfl (hh_290 _ _ _) rfl rfl (x1 c1) (by decide) hk ?_
    refine ax_s (pc' := 7) (ls' := [some (.ref 285), some (.int (nI j)), some (.int 4), some (.int 4)]) (st' := []) rfl rfl rfl rfl ?_
    refine ax_s (pc' := 8) (st' := [.int 4]) rfl rfl rfl rfl ?_
    refine ax_if_eq rfl (fun c3 => False.elim (by revert c3; decide)) (fun c3 => ?_)
    refine ax_s (pc' := 12) (st' := [.int 4]) rfl rfl rfl rfl ?_
    refine ax_s (pc' := 13) (st' := [.int 4, .int 4]) rfl rfl rfl rfl ?_
    refine ax_cmp_eq rfl (fun c4 => ?_) (fun c4 => False.elim (by revert c4; decide))
    refine ax_s (pc' := 37) (st' := [.int 1]) rfl rfl rfl rfl ?_
    refine ax_s (pc' := 41) (st' := [.int 1]) rfl rfl rfl rfl ?_
    refine ax_rb (b := true) rfl rfl ?_
    show am_ex (d + 4) 222 26 [some (.ref 285), some (.int (nI j)), some (.int 4)] [.int 1] (am_hh X S L) _
    refine ax_if_ne rfl (fun c5 => ?_) (fun c5 => False.elim (by revert c5; decide))
    refine ax_s (pc' := 36) (st' := [.ref 285]) rfl rfl rfl rfl ?_
    refine ax_s (pc' := 37) (st' := [.int 0, .ref 285]) rfl rfl rfl rfl ?_
    refine ax_put rfl (hh_285 _ _ _) rfl rfl (show 3 + 1 ≤ _ from Nat.le_of_ble_eq_true rfl) rfl (am_hh_set _ _ _ 285 3 _ rfl) ?_
    refine ax_s (pc' := 41) (st' := [.int (nI j)]) rfl rfl rfl rfl ?_
    refine ax_r rfl rfl rfl ?_
    exact k2 c1
theorem wk_as_4_5 {d : Nat} {X : Nat × (Nat → Int32)} {S : Nat → Nat → Int32} {L : Nat → Int64} {j : Nat} {Q : Option Value → am_H → Prop} (hk : S 22 j = 4) (hj : j < 6)  (x1 : ¬ (nI j) < 0 ∧ ¬ (S 20 4) ≤ (nI j) → j < 6) (k1 : ¬ (¬ (nI j) < 0 ∧ ¬ (S 20 4) ≤ (nI j)) → Q (some (.int (-1000001))) (am_hh X S L)) (k2 : ¬ (nI j) < 0 ∧ ¬ (S 20 4) ≤ (nI j) → Q (some (.int (-1000013))) (am_hh X (am_u S 5 12 3) L)) : am_mt (d + 4) 133 [.ref 5, .int (nI j), .int 5] (am_hh X S L) Q := by
  refine ax_in (ls := [some (.ref 5), some (.int (nI j)), some (.int 5)]) rfl ?_
  refine ax_s (pc' := 1) (st' := [.ref 5]) rfl rfl rfl rfl ?_
  refine ax_get rfl (hh_5 _ _ _) rfl rfl rfl ?_
  show am_ex (d + 4) 133 4 [some (.ref 5), some (.int (nI j)), some (.int 5)] [.ref 20] (am_hh X S L) _
  refine ax_s (pc' := 5) (st' := [.int (nI j), .ref 20]) rfl rfl rfl rfl ?_
  refine ax_call (vs := [.ref 20, .int (nI j)]) (rr := []) rfl rfl rfl ?_
  refine kw (am_hh_sub isW20 X S L) (am_hh_sub isW20 X S L).symm (fun _ => ct_hasParty (am_isW_k isW20 X S L)) ?_
  show am_ex (d + 4) 133 8 [some (.ref 5), some (.int (nI j)), some (.int 5)] [.int (bI (decide (¬ (nI j) < 0 ∧ ¬ (S 20 4) ≤ (nI j))))] (am_hh X S L) _
  refine ax_pF rfl (fun c1 => ?_) (fun c1 => ?_)
  · refine ax_s (pc' := 22) (st' := [.int (-1000001)]) rfl rfl rfl rfl ?_
    refine ax_r rfl rfl rfl ?_
    exact k1 c1
  · refine ax_s (pc' := 12) (st' := [.int 5]) rfl rfl rfl rfl ?_
    refine ax_s (pc' := 13) (st' := [.int 0, .int 5]) rfl rfl rfl rfl ?_
    refine ax_s (pc' := 14) (st' := [.int 5, .int 0, .int 5]) rfl rfl rfl rfl ?_
    refine ax_call (vs := [.int 5, .int 0, .int 5]) (rr := []) rfl rfl rfl ?_
    refine ct_isOutside ?_
    show am_ex (d + 4) 133 17 [some (.ref 5), some (.int (nI j)), some (.int 5)] [.int 0] (am_hh X S L) _
    refine ax_if_eq rfl (fun c2 => ?_) (fun c2 => False.elim (by revert c2; decide))
    refine ax_s (pc' := 24) (st' := [.ref 5]) rfl rfl rfl rfl ?_
    refine ax_get rfl (hh_5 _ _ _) rfl rfl rfl ?_
    show am_ex (d + 4) 133 27 [some (.ref 5), some (.int (nI j)), some (.int 5)] [.ref 20] (am_hh X S L) _
    refine ax_get rfl (hh_20 _ _ _) rfl rfl rfl ?_
    show am_ex (d + 4) 133 30 [some (.ref 5), some (.int (nI j)), some (.int 5)] [.ref 22] (am_hh X S L) _
    refine ax_s (pc' := 31) (st' := [.int (nI j), .ref 22]) rfl rfl rfl rfl ?_
    refine ax_ald (j := j) (v := 4) rfl (hh_22 _ _ _) rfl rfl (x1 c1) (by decide) hk ?_
    refine ax_s (pc' := 33) (st' := [.int 5, .int 4]) rfl rfl rfl rfl ?_
    refine ax_call (vs := [.int 4, .int 5]) (rr := []) rfl rfl rfl ?_
    refine kt_isSuch_4_5 ?_
    show am_ex (d + 4) 133 36 [some (.ref 5), some (.int (nI j)), some (.int 5)] [.int 0] (am_hh X S L) _
    refine ax_if_ne rfl (fun c3 => False.elim (by revert c3; decide)) (fun c3 => ?_)
    refine ax_s (pc' := 40) (st' := [.ref 5]) rfl rfl rfl rfl ?_
    refine ax_s (pc' := 41) (st' := [.int 3, .ref 5]) rfl rfl rfl rfl ?_
    refine ax_call (vs := [.ref 5, .int 3]) (rr := []) rfl rfl rfl ?_
    refine ax_in (ls := [some (.ref 5), some (.int 3)]) rfl ?_
    refine ax_s (pc' := 1) (st' := [.ref 5]) rfl rfl rfl rfl ?_
    refine ax_s (pc' := 2) (st' := [.int 3, .ref 5]) rfl rfl rfl rfl ?_
    refine ax_put rfl (hh_5 _ _ _) rfl rfl (show 12 + 1 ≤ _ from Nat.le_of_ble_eq_true rfl) rfl (am_hh_set _ _ _ 5 12 _ rfl) ?_
    refine ax_s (pc' := 8) (st' := [.int (-1000010)]) rfl rfl rfl rfl ?_
    refine ax_s (pc' := 9) (st' := [.int 3, .int (-1000010)]) rfl rfl rfl rfl ?_
    refine ax_s (pc' := 10) (st' := [.int (-1000013)]) rfl rfl rfl rfl ?_
    refine ax_r rfl rfl rfl ?_
    show am_ex (d + 4) 133 44 [some (.ref 5), some (.int (nI j)), some (.int 5)] [.int (-1000013)] (am_hh X (am_u S 5 12 3) L) _
    refine ax_r rfl rfl rfl ?_
    exact k2 c1
theorem wm_as_4_5 {d : Nat} {X : Nat × (Nat → Int32)} {S : Nat → Nat → Int32} {L : Nat → Int64} {j : Nat} {Q : Option Value → am_H → Prop} (hk : S 290 j = 4) (hj : j < 6)  (x1 : ¬ (nI j) < 0 ∧ ¬ (S 285 7) - 1 < (nI j) → j < 6) (k1 : ¬ (¬ (nI j) < 0 ∧ ¬ (S 285 7) - 1 < (nI j)) → Q (some (.int (-1000001))) (am_hh X S L)) (k2 : ¬ (nI j) < 0 ∧ ¬ (S 285 7) - 1 < (nI j) → Q (some (.int (-1000013))) (am_hh X (am_u S 285 3 3) L)) : am_mt (d + 4) 222 [.ref 285, .int (nI j), .int 5] (am_hh X S L) Q := by
  refine ax_in (ls := [some (.ref 285), some (.int (nI j)), some (.int 5)]) rfl ?_
  refine ax_s (pc' := 1) (st' := [.ref 285]) rfl rfl rfl rfl ?_
  refine ax_s (pc' := 2) (st' := [.int (nI j), .ref 285]) rfl rfl rfl rfl ?_
  refine ax_call (vs := [.ref 285, .int (nI j)]) (rr := []) rfl rfl rfl ?_
  refine mt_isParty  ?_
  show am_ex (d + 4) 222 5 [some (.ref 285), some (.int (nI j)), some (.int 5)] [.int (bI (decide (¬ (nI j) < 0 ∧ ¬ (S 285 7) - 1 < (nI j))))] (am_hh X S L) _
  refine ax_pF rfl (fun c1 => ?_) (fun c1 => ?_)
  · refine ax_s (pc' := 19) (st' := [.int (-1000001)]) rfl rfl rfl rfl ?_
    refine ax_r rfl rfl rfl ?_
    exact k1 c1
  · refine ax_s (pc' := 9) (st' := [.int 5]) rfl rfl rfl rfl ?_
    refine ax_s (pc' := 10) (st' := [.int 0, .int 5]) rfl rfl rfl rfl ?_
    refine ax_s (pc' := 11) (st' := [.int 5, .int 0, .int 5]) rfl rfl rfl rfl ?_
    refine ax_call (vs := [.int 5, .int 0, .int 5]) (rr := []) rfl rfl rfl ?_
    refine mt_in ?_
    show am_ex (d + 4) 222 14 [some (.ref 285), some (.int (nI j)), some (.int 5)] [.int 1] (am_hh X S L) _
    refine ax_if_ne rfl (fun c2 => ?_) (fun c2 => False.elim (by revert c2; decide))
    refine ax_s (pc' := 21) (st' := [.ref 285]) rfl rfl rfl rfl ?_
    refine ax_s (pc' := 22) (st' := [.int (nI j), .ref 285]) rfl rfl rfl rfl ?_
    refine ax_s (pc' := 23) (st' := [.int 5, .int (nI j), .ref 285]) rfl rfl rfl rfl ?_
    refine ax_call (vs := [.ref 285, .int (nI j), .int 5]) (rr := []) rfl rfl rfl ?_
    refine ax_in (ls := [some (.ref 285), some (.int (nI j)), some (.int 5), none]) rfl ?_
    refine ax_s (pc' := 1) (st' := [.ref 285]) rfl rfl rfl rfl ?_
    refine ax_get rfl (hh_285 _ _ _) rfl rfl rfl ?_
    show am_ex (d + 3) 223 4 [some (.ref 285), some (.int (nI j)), some (.int 5), none] [.ref 290] (am_hh X S L) _
    refine ax_s (pc' := 5) (st' := [.int (nI j), .ref 290]) rfl rfl rfl rfl ?_
    refine ax_ald (j := j) (v := 4) rfl (hh_290 _ _ _) rfl rfl (x1 c1) (by decide) hk ?_
    refine ax_s (pc' := 7) (ls' := [some (.ref 285), some (.int (nI j)), some (.int 5), some (.int 4)]) (st' := []) rfl rfl rfl rfl ?_
    refine ax_s (pc' := 8) (st' := [.int 5]) rfl rfl rfl rfl ?_
    refine ax_if_eq rfl (fun c3 => False.elim (by revert c3; decide)) (fun c3 => ?_)
    refine ax_s (pc' := 12) (st' := [.int 5]) rfl rfl rfl rfl ?_
    refine ax_s (pc' := 13) (st' := [.int 4, .int 5]) rfl rfl rfl rfl ?_
    refine ax_cmp_eq rfl (fun c4 => False.elim (by revert c4; decide)) (fun c4 => ?_)
    refine ax_s (pc' := 17) (st' := [.int 5]) rfl rfl rfl rfl ?_
    refine ax_s (pc' := 18) (st' := [.int 1, .int 5]) rfl rfl rfl rfl ?_
    refine ax_cmp_ne rfl (fun c5 => ?_) (fun c5 => False.elim (by revert c5; decide))
    refine ax_s (pc' := 27) (st' := [.int 5]) rfl rfl rfl rfl ?_
    refine ax_s (pc' := 28) (st' := [.int 4, .int 5]) rfl rfl rfl rfl ?_
    refine ax_cmp_ne rfl (fun c6 => ?_) (fun c6 => False.elim (by revert c6; decide))
    refine ax_s (pc' := 41) (st' := [.int 0]) rfl rfl rfl rfl ?_
    refine ax_rb (b := false) rfl rfl ?_
    show am_ex (d + 4) 222 26 [some (.ref 285), some (.int (nI j)), some (.int 5)] [.int 0] (am_hh X S L) _
    refine ax_if_ne rfl (fun c7 => False.elim (by revert c7; decide)) (fun c7 => ?_)
    refine ax_s (pc' := 30) (st' := [.ref 285]) rfl rfl rfl rfl ?_
    refine ax_s (pc' := 31) (st' := [.int 3, .ref 285]) rfl rfl rfl rfl ?_
    refine ax_call (vs := [.ref 285, .int 3]) (rr := []) rfl rfl rfl ?_
    refine ax_in (ls := [some (.ref 285), some (.int 3)]) rfl ?_
    refine ax_s (pc' := 1) (st' := [.ref 285]) rfl rfl rfl rfl ?_
    refine ax_s (pc' := 2) (st' := [.int 3, .ref 285]) rfl rfl rfl rfl ?_
    refine ax_put rfl (hh_285 _ _ _) rfl rfl (show 3 + 1 ≤ _ from Nat.le_of_ble_eq_true rfl) rfl (am_hh_set _ _ _ 285 3 _ rfl) ?_
    refine ax_s (pc' := 7) (st' := [.int (-1000010)]) rfl rfl rfl rfl ?_
    refine ax_s (pc' := 8) (st' := [.int 3, .int (-1000010)]) rfl rfl rfl rfl ?_
    refine ax_s (pc' := 9) (st' := [.int (-1000013)]) rfl rfl rfl rfl ?_
    refine ax_r rfl rfl rfl ?_
    show am_ex (d + 4) 222 34 [some (.ref 285), some (.int (nI j)), some (.int 5)] [.int (-1000013)] (am_hh X (am_u S 285 3 3) L) _
    refine ax_r rfl rfl rfl ?_
    exact k2 c1
theorem wk_as_5_0 {d : Nat} {X : Nat × (Nat → Int32)} {S : Nat → Nat → Int32} {L : Nat → Int64} {j : Nat} {Q : Option Value → am_H → Prop} (hk : S 22 j = 5) (hj : j < 6)  (x1 : ¬ (nI j) < 0 ∧ ¬ (S 20 4) ≤ (nI j) → j < 6) (k1 : ¬ (¬ (nI j) < 0 ∧ ¬ (S 20 4) ≤ (nI j)) → Q (some (.int (-1000001))) (am_hh X S L)) (k2 : ¬ (nI j) < 0 ∧ ¬ (S 20 4) ≤ (nI j) → Q (some (.int (nI j))) (am_hh X (am_u S 5 12 0) L)) : am_mt (d + 4) 133 [.ref 5, .int (nI j), .int 0] (am_hh X S L) Q := by
  refine ax_in (ls := [some (.ref 5), some (.int (nI j)), some (.int 0)]) rfl ?_
  refine ax_s (pc' := 1) (st' := [.ref 5]) rfl rfl rfl rfl ?_
  refine ax_get rfl (hh_5 _ _ _) rfl rfl rfl ?_
  show am_ex (d + 4) 133 4 [some (.ref 5), some (.int (nI j)), some (.int 0)] [.ref 20] (am_hh X S L) _
  refine ax_s (pc' := 5) (st' := [.int (nI j), .ref 20]) rfl rfl rfl rfl ?_
  refine ax_call (vs := [.ref 20, .int (nI j)]) (rr := []) rfl rfl rfl ?_
  refine kw (am_hh_sub isW20 X S L) (am_hh_sub isW20 X S L).symm (fun _ => ct_hasParty (am_isW_k isW20 X S L)) ?_
  show am_ex (d + 4) 133 8 [some (.ref 5), some (.int (nI j)), some (.int 0)] [.int (bI (decide (¬ (nI j) < 0 ∧ ¬ (S 20 4) ≤ (nI j))))] (am_hh X S L) _
  refine ax_pF rfl (fun c1 => ?_) (fun c1 => ?_)
  · refine ax_s (pc' := 22) (st' := [.int (-1000001)]) rfl rfl rfl rfl ?_
    refine ax_r rfl rfl rfl ?_
    exact k1 c1
  · refine ax_s (pc' := 12) (st' := [.int 0]) rfl rfl rfl rfl ?_
    refine ax_s (pc' := 13) (st' := [.int 0, .int 0]) rfl rfl rfl rfl ?_
    refine ax_s (pc' := 14) (st' := [.int 5, .int 0, .int 0]) rfl rfl rfl rfl ?_
    refine ax_call (vs := [.int 0, .int 0, .int 5]) (rr := []) rfl rfl rfl ?_
    refine ct_isOutside ?_
    show am_ex (d + 4) 133 17 [some (.ref 5), some (.int (nI j)), some (.int 0)] [.int 0] (am_hh X S L) _
    refine ax_if_eq rfl (fun c2 => ?_) (fun c2 => False.elim (by revert c2; decide))
    refine ax_s (pc' := 24) (st' := [.ref 5]) rfl rfl rfl rfl ?_
    refine ax_get rfl (hh_5 _ _ _) rfl rfl rfl ?_
    show am_ex (d + 4) 133 27 [some (.ref 5), some (.int (nI j)), some (.int 0)] [.ref 20] (am_hh X S L) _
    refine ax_get rfl (hh_20 _ _ _) rfl rfl rfl ?_
    show am_ex (d + 4) 133 30 [some (.ref 5), some (.int (nI j)), some (.int 0)] [.ref 22] (am_hh X S L) _
    refine ax_s (pc' := 31) (st' := [.int (nI j), .ref 22]) rfl rfl rfl rfl ?_
    refine ax_ald (j := j) (v := 5) rfl (hh_22 _ _ _) rfl rfl (x1 c1) (by decide) hk ?_
    refine ax_s (pc' := 33) (st' := [.int 0, .int 5]) rfl rfl rfl rfl ?_
    refine ax_call (vs := [.int 5, .int 0]) (rr := []) rfl rfl rfl ?_
    refine kt_isSuch_5_0 ?_
    show am_ex (d + 4) 133 36 [some (.ref 5), some (.int (nI j)), some (.int 0)] [.int 1] (am_hh X S L) _
    refine ax_if_ne rfl (fun c3 => ?_) (fun c3 => False.elim (by revert c3; decide))
    refine ax_s (pc' := 46) (st' := [.ref 5]) rfl rfl rfl rfl ?_
    refine ax_s (pc' := 47) (st' := [.int (nI j), .ref 5]) rfl rfl rfl rfl ?_
    refine ax_call (vs := [.ref 5, .int (nI j)]) (rr := []) rfl rfl rfl ?_
    refine ax_in (ls := [some (.ref 5), some (.int (nI j))]) rfl ?_
    refine ax_s (pc' := 1) (st' := [.ref 5]) rfl rfl rfl rfl ?_
    refine ax_s (pc' := 2) (st' := [.int 0, .ref 5]) rfl rfl rfl rfl ?_
    refine ax_put rfl (hh_5 _ _ _) rfl rfl (show 12 + 1 ≤ _ from Nat.le_of_ble_eq_true rfl) rfl (am_hh_set _ _ _ 5 12 _ rfl) ?_
    refine ax_s (pc' := 6) (st' := [.int (nI j)]) rfl rfl rfl rfl ?_
    refine ax_r rfl rfl rfl ?_
    show am_ex (d + 4) 133 50 [some (.ref 5), some (.int (nI j)), some (.int 0)] [.int (nI j)] (am_hh X (am_u S 5 12 0) L) _
    refine ax_r rfl rfl rfl ?_
    exact k2 c1
theorem wm_as_5_0 {d : Nat} {X : Nat × (Nat → Int32)} {S : Nat → Nat → Int32} {L : Nat → Int64} {j : Nat} {Q : Option Value → am_H → Prop} (hk : S 290 j = 5) (hj : j < 6)  (x1 : ¬ (nI j) < 0 ∧ ¬ (S 285 7) - 1 < (nI j) → j < 6) (k1 : ¬ (¬ (nI j) < 0 ∧ ¬ (S 285 7) - 1 < (nI j)) → Q (some (.int (-1000001))) (am_hh X S L)) (k2 : ¬ (nI j) < 0 ∧ ¬ (S 285 7) - 1 < (nI j) → Q (some (.int (nI j))) (am_hh X (am_u S 285 3 0) L)) : am_mt (d + 4) 222 [.ref 285, .int (nI j), .int 0] (am_hh X S L) Q := by
  refine ax_in (ls := [some (.ref 285), some (.int (nI j)), some (.int 0)]) rfl ?_
  refine ax_s (pc' := 1) (st' := [.ref 285]) rfl rfl rfl rfl ?_
  refine ax_s (pc' := 2) (st' := [.int (nI j), .ref 285]) rfl rfl rfl rfl ?_
  refine ax_call (vs := [.ref 285, .int (nI j)]) (rr := []) rfl rfl rfl ?_
  refine mt_isParty  ?_
  show am_ex (d + 4) 222 5 [some (.ref 285), some (.int (nI j)), some (.int 0)] [.int (bI (decide (¬ (nI j) < 0 ∧ ¬ (S 285 7) - 1 < (nI j))))] (am_hh X S L) _
  refine ax_pF rfl (fun c1 => ?_) (fun c1 => ?_)
  · refine ax_s (pc' := 19) (st' := [.int (-1000001)]) rfl rfl rfl rfl ?_
    refine ax_r rfl rfl rfl ?_
    exact k1 c1
  · refine ax_s (pc' := 9) (st' := [.int 0]) rfl rfl rfl rfl ?_
    refine ax_s (pc' := 10) (st' := [.int 0, .int 0]) rfl rfl rfl rfl ?_
    refine ax_s (pc' := 11) (st' := [.int 5, .int 0, .int 0]) rfl rfl rfl rfl ?_
    refine ax_call (vs := [.int 0, .int 0, .int 5]) (rr := []) rfl rfl rfl ?_
    refine mt_in ?_
    show am_ex (d + 4) 222 14 [some (.ref 285), some (.int (nI j)), some (.int 0)] [.int 1] (am_hh X S L) _
    refine ax_if_ne rfl (fun c2 => ?_) (fun c2 => False.elim (by revert c2; decide))
    refine ax_s (pc' := 21) (st' := [.ref 285]) rfl rfl rfl rfl ?_
    refine ax_s (pc' := 22) (st' := [.int (nI j), .ref 285]) rfl rfl rfl rfl ?_
    refine ax_s (pc' := 23) (st' := [.int 0, .int (nI j), .ref 285]) rfl rfl rfl rfl ?_
    refine ax_call (vs := [.ref 285, .int (nI j), .int 0]) (rr := []) rfl rfl rfl ?_
    refine ax_in (ls := [some (.ref 285), some (.int (nI j)), some (.int 0), none]) rfl ?_
    refine ax_s (pc' := 1) (st' := [.ref 285]) rfl rfl rfl rfl ?_
    refine ax_get rfl (hh_285 _ _ _) rfl rfl rfl ?_
    show am_ex (d + 3) 223 4 [some (.ref 285), some (.int (nI j)), some (.int 0), none] [.ref 290] (am_hh X S L) _
    refine ax_s (pc' := 5) (st' := [.int (nI j), .ref 290]) rfl rfl rfl rfl ?_
    refine ax_ald (j := j) (v := 5) rfl (hh_290 _ _ _) rfl rfl (x1 c1) (by decide) hk ?_
    refine ax_s (pc' := 7) (ls' := [some (.ref 285), some (.int (nI j)), some (.int 0), some (.int 5)]) (st' := []) rfl rfl rfl rfl ?_
    refine ax_s (pc' := 8) (st' := [.int 0]) rfl rfl rfl rfl ?_
    refine ax_if_eq rfl (fun c3 => ?_) (fun c3 => False.elim (by revert c3; decide))
    refine ax_s (pc' := 37) (st' := [.int 1]) rfl rfl rfl rfl ?_
    refine ax_s (pc' := 41) (st' := [.int 1]) rfl rfl rfl rfl ?_
    refine ax_rb (b := true) rfl rfl ?_
    show am_ex (d + 4) 222 26 [some (.ref 285), some (.int (nI j)), some (.int 0)] [.int 1] (am_hh X S L) _
    refine ax_if_ne rfl (fun c4 => ?_) (fun c4 => False.elim (by revert c4; decide))
    refine ax_s (pc' := 36) (st' := [.ref 285]) rfl rfl rfl rfl ?_
    refine ax_s (pc' := 37) (st' := [.int 0, .ref 285]) rfl rfl rfl rfl ?_
    refine ax_put rfl (hh_285 _ _ _) rfl rfl (show 3 + 1 ≤ _ from Nat.le_of_ble_eq_true rfl) rfl (am_hh_set _ _ _ 285 3 _ rfl) ?_
    refine ax_s (pc' := 41) (st' := [.int (nI j)]) rfl rfl rfl rfl ?_
    refine ax_r rfl rfl rfl ?_
    exact k2 c1
theorem wk_as_5_1 {d : Nat} {X : Nat × (Nat → Int32)} {S : Nat → Nat → Int32} {L : Nat → Int64} {j : Nat} {Q : Option Value → am_H → Prop} (hk : S 22 j = 5) (hj : j < 6)  (x1 : ¬ (nI j) < 0 ∧ ¬ (S 20 4) ≤ (nI j) → j < 6) (k1 : ¬ (¬ (nI j) < 0 ∧ ¬ (S 20 4) ≤ (nI j)) → Q (some (.int (-1000001))) (am_hh X S L)) (k2 : ¬ (nI j) < 0 ∧ ¬ (S 20 4) ≤ (nI j) → Q (some (.int (-1000013))) (am_hh X (am_u S 5 12 3) L)) : am_mt (d + 4) 133 [.ref 5, .int (nI j), .int 1] (am_hh X S L) Q := by
  refine ax_in (ls := [some (.ref 5), some (.int (nI j)), some (.int 1)]) rfl ?_
  refine ax_s (pc' := 1) (st' := [.ref 5]) rfl rfl rfl rfl ?_
  refine ax_get rfl (hh_5 _ _ _) rfl rfl rfl ?_
  show am_ex (d + 4) 133 4 [some (.ref 5), some (.int (nI j)), some (.int 1)] [.ref 20] (am_hh X S L) _
  refine ax_s (pc' := 5) (st' := [.int (nI j), .ref 20]) rfl rfl rfl rfl ?_
  refine ax_call (vs := [.ref 20, .int (nI j)]) (rr := []) rfl rfl rfl ?_
  refine kw (am_hh_sub isW20 X S L) (am_hh_sub isW20 X S L).symm (fun _ => ct_hasParty (am_isW_k isW20 X S L)) ?_
  show am_ex (d + 4) 133 8 [some (.ref 5), some (.int (nI j)), some (.int 1)] [.int (bI (decide (¬ (nI j) < 0 ∧ ¬ (S 20 4) ≤ (nI j))))] (am_hh X S L) _
  refine ax_pF rfl (fun c1 => ?_) (fun c1 => ?_)
  · refine ax_s (pc' := 22) (st' := [.int (-1000001)]) rfl rfl rfl rfl ?_
    refine ax_r rfl rfl rfl ?_
    exact k1 c1
  · refine ax_s (pc' := 12) (st' := [.int 1]) rfl rfl rfl rfl ?_
    refine ax_s (pc' := 13) (st' := [.int 0, .int 1]) rfl rfl rfl rfl ?_
    refine ax_s (pc' := 14) (st' := [.int 5, .int 0, .int 1]) rfl rfl rfl rfl ?_
    refine ax_call (vs := [.int 1, .int 0, .int 5]) (rr := []) rfl rfl rfl ?_
    refine ct_isOutside ?_
    show am_ex (d + 4) 133 17 [some (.ref 5), some (.int (nI j)), some (.int 1)] [.int 0] (am_hh X S L) _
    refine ax_if_eq rfl (fun c2 => ?_) (fun c2 => False.elim (by revert c2; decide))
    refine ax_s (pc' := 24) (st' := [.ref 5]) rfl rfl rfl rfl ?_
    refine ax_get rfl (hh_5 _ _ _) rfl rfl rfl ?_
    show am_ex (d + 4) 133 27 [some (.ref 5), some (.int (nI j)), some (.int 1)] [.ref 20] (am_hh X S L) _
    refine ax_get rfl (hh_20 _ _ _) rfl rfl rfl ?_
    show am_ex (d + 4) 133 30 [some (.ref 5), some (.int (nI j)), some (.int 1)] [.ref 22] (am_hh X S L) _
    refine ax_s (pc' := 31) (st' := [.int (nI j), .ref 22]) rfl rfl rfl rfl ?_
    refine ax_ald (j := j) (v := 5) rfl (hh_22 _ _ _) rfl rfl (x1 c1) (by decide) hk ?_
    refine ax_s (pc' := 33) (st' := [.int 1, .int 5]) rfl rfl rfl rfl ?_
    refine ax_call (vs := [.int 5, .int 1]) (rr := []) rfl rfl rfl ?_
    refine kt_isSuch_5_1 ?_
    show am_ex (d + 4) 133 36 [some (.ref 5), some (.int (nI j)), some (.int 1)] [.int 0] (am_hh X S L) _
    refine ax_if_ne rfl (fun c3 => False.elim (by revert c3; decide)) (fun c3 => ?_)
    refine ax_s (pc' := 40) (st' := [.ref 5]) rfl rfl rfl rfl ?_
    refine ax_s (pc' := 41) (st' := [.int 3, .ref 5]) rfl rfl rfl rfl ?_
    refine ax_call (vs := [.ref 5, .int 3]) (rr := []) rfl rfl rfl ?_
    refine ax_in (ls := [some (.ref 5), some (.int 3)]) rfl ?_
    refine ax_s (pc' := 1) (st' := [.ref 5]) rfl rfl rfl rfl ?_
    refine ax_s (pc' := 2) (st' := [.int 3, .ref 5]) rfl rfl rfl rfl ?_
    refine ax_put rfl (hh_5 _ _ _) rfl rfl (show 12 + 1 ≤ _ from Nat.le_of_ble_eq_true rfl) rfl (am_hh_set _ _ _ 5 12 _ rfl) ?_
    refine ax_s (pc' := 8) (st' := [.int (-1000010)]) rfl rfl rfl rfl ?_
    refine ax_s (pc' := 9) (st' := [.int 3, .int (-1000010)]) rfl rfl rfl rfl ?_
    refine ax_s (pc' := 10) (st' := [.int (-1000013)]) rfl rfl rfl rfl ?_
    refine ax_r rfl rfl rfl ?_
    show am_ex (d + 4) 133 44 [some (.ref 5), some (.int (nI j)), some (.int 1)] [.int (-1000013)] (am_hh X (am_u S 5 12 3) L) _
    refine ax_r rfl rfl rfl ?_
    exact k2 c1
theorem wm_as_5_1 {d : Nat} {X : Nat × (Nat → Int32)} {S : Nat → Nat → Int32} {L : Nat → Int64} {j : Nat} {Q : Option Value → am_H → Prop} (hk : S 290 j = 5) (hj : j < 6)  (x1 : ¬ (nI j) < 0 ∧ ¬ (S 285 7) - 1 < (nI j) → j < 6) (k1 : ¬ (¬ (nI j) < 0 ∧ ¬ (S 285 7) - 1 < (nI j)) → Q (some (.int (-1000001))) (am_hh X S L)) (k2 : ¬ (nI j) < 0 ∧ ¬ (S 285 7) - 1 < (nI j) → Q (some (.int (-1000013))) (am_hh X (am_u S 285 3 3) L)) : am_mt (d + 4) 222 [.ref 285, .int (nI j), .int 1] (am_hh X S L) Q := by
  refine ax_in (ls := [some (.ref 285), some (.int (nI j)), some (.int 1)]) rfl ?_
  refine ax_s (pc' := 1) (st' := [.ref 285]) rfl rfl rfl rfl ?_
  refine ax_s (pc' := 2) (st' := [.int (nI j), .ref 285]) rfl rfl rfl rfl ?_
  refine ax_call (vs := [.ref 285, .int (nI j)]) (rr := []) rfl rfl rfl ?_
  refine mt_isParty  ?_
  show am_ex (d + 4) 222 5 [some (.ref 285), some (.int (nI j)), some (.int 1)] [.int (bI (decide (¬ (nI j) < 0 ∧ ¬ (S 285 7) - 1 < (nI j))))] (am_hh X S L) _
  refine ax_pF rfl (fun c1 => ?_) (fun c1 => ?_)
  · refine ax_s (pc' := 19) (st' := [.int (-1000001)]) rfl rfl rfl rfl ?_
    refine ax_r rfl rfl rfl ?_
    exact k1 c1
  · refine ax_s (pc' := 9) (st' := [.int 1]) rfl rfl rfl rfl ?_
    refine ax_s (pc' := 10) (st' := [.int 0, .int 1]) rfl rfl rfl rfl ?_
    refine ax_s (pc' := 11) (st' := [.int 5, .int 0, .int 1]) rfl rfl rfl rfl ?_
    refine ax_call (vs := [.int 1, .int 0, .int 5]) (rr := []) rfl rfl rfl ?_
    refine mt_in ?_
    show am_ex (d + 4) 222 14 [some (.ref 285), some (.int (nI j)), some (.int 1)] [.int 1] (am_hh X S L) _
    refine ax_if_ne rfl (fun c2 => ?_) (fun c2 => False.elim (by revert c2; decide))
    refine ax_s (pc' := 21) (st' := [.ref 285]) rfl rfl rfl rfl ?_
    refine ax_s (pc' := 22) (st' := [.int (nI j), .ref 285]) rfl rfl rfl rfl ?_
    refine ax_s (pc' := 23) (st' := [.int 1, .int (nI j), .ref 285]) rfl rfl rfl rfl ?_
    refine ax_call (vs := [.ref 285, .int (nI j), .int 1]) (rr := []) rfl rfl rfl ?_
    refine ax_in (ls := [some (.ref 285), some (.int (nI j)), some (.int 1), none]) rfl ?_
    refine ax_s (pc' := 1) (st' := [.ref 285]) rfl rfl rfl rfl ?_
    refine ax_get rfl (hh_285 _ _ _) rfl rfl rfl ?_
    show am_ex (d + 3) 223 4 [some (.ref 285), some (.int (nI j)), some (.int 1), none] [.ref 290] (am_hh X S L) _
    refine ax_s (pc' := 5) (st' := [.int (nI j), .ref 290]) rfl rfl rfl rfl ?_
    refine ax_ald (j := j) (v := 5) rfl (hh_290 _ _ _) rfl rfl (x1 c1) (by decide) hk ?_
    refine ax_s (pc' := 7) (ls' := [some (.ref 285), some (.int (nI j)), some (.int 1), some (.int 5)]) (st' := []) rfl rfl rfl rfl ?_
    refine ax_s (pc' := 8) (st' := [.int 1]) rfl rfl rfl rfl ?_
    refine ax_if_eq rfl (fun c3 => False.elim (by revert c3; decide)) (fun c3 => ?_)
    refine ax_s (pc' := 12) (st' := [.int 1]) rfl rfl rfl rfl ?_
    refine ax_s (pc' := 13) (st' := [.int 5, .int 1]) rfl rfl rfl rfl ?_
    refine ax_cmp_eq rfl (fun c4 => False.elim (by revert c4; decide)) (fun c4 => ?_)
    refine ax_s (pc' := 17) (st' := [.int 1]) rfl rfl rfl rfl ?_
    refine ax_s (pc' := 18) (st' := [.int 1, .int 1]) rfl rfl rfl rfl ?_
    refine ax_cmp_ne rfl (fun c5 => False.elim (by revert c5; decide)) (fun c5 => ?_)
    refine ax_s (pc' := 22) (st' := [.int 5]) rfl rfl rfl rfl ?_
    refine ax_s (pc' := 23) (st' := [.int 4, .int 5]) rfl rfl rfl rfl ?_
    refine ax_cmp_lt rfl (fun c6 => False.elim (by revert c6; decide)) (fun c6 => ?_)
    refine ax_s (pc' := 27) (st' := [.int 1]) rfl rfl rfl rfl ?_
    refine ax_s (pc' := 28) (st' := [.int 4, .int 1]) rfl rfl rfl rfl ?_
    refine ax_cmp_ne rfl (fun c7 => ?_) (fun c7 => False.elim (by revert c7; decide))
    refine ax_s (pc' := 41) (st' := [.int 0]) rfl rfl rfl rfl ?_
    refine ax_rb (b := false) rfl rfl ?_
    show am_ex (d + 4) 222 26 [some (.ref 285), some (.int (nI j)), some (.int 1)] [.int 0] (am_hh X S L) _
    refine ax_if_ne rfl (fun c8 => False.elim (by revert c8; decide)) (fun c8 => ?_)
    refine ax_s (pc' := 30) (st' := [.ref 285]) rfl rfl rfl rfl ?_
    refine ax_s (pc' := 31) (st' := [.int 3, .ref 285]) rfl rfl rfl rfl ?_
    refine ax_call (vs := [.ref 285, .int 3]) (rr := []) rfl rfl rfl ?_
    refine ax_in (ls := [some (.ref 285), some (.int 3)]) rfl ?_
    refine ax_s (pc' := 1) (st' := [.ref 285]) rfl rfl rfl rfl ?_
    refine ax_s (pc' := 2) (st' := [.int 3, .ref 285]) rfl rfl rfl rfl ?_
    refine ax_put rfl (hh_285 _ _ _) rfl rfl (show 3 + 1 ≤ _ from Nat.le_of_ble_eq_true rfl) rfl (am_hh_set _ _ _ 285 3 _ rfl) ?_
    refine ax_s (pc' := 7) (st' := [.int (-1000010)]) rfl rfl rfl rfl ?_
    refine ax_s (pc' := 8) (st' := [.int 3, .int (-1000010)]) rfl rfl rfl rfl ?_
    refine ax_s (pc' := 9) (st' := [.int (-1000013)]) rfl rfl rfl rfl ?_
    refine ax_r rfl rfl rfl ?_
    show am_ex (d + 4) 222 34 [some (.ref 285), some (.int (nI j)), some (.int 1)] [.int (-1000013)] (am_hh X (am_u S 285 3 3) L) _
    refine ax_r rfl rfl rfl ?_
    exact k2 c1
theorem wk_as_5_2 {d : Nat} {X : Nat × (Nat → Int32)} {S : Nat → Nat → Int32} {L : Nat → Int64} {j : Nat} {Q : Option Value → am_H → Prop} (hk : S 22 j = 5) (hj : j < 6)  (x1 : ¬ (nI j) < 0 ∧ ¬ (S 20 4) ≤ (nI j) → j < 6) (k1 : ¬ (¬ (nI j) < 0 ∧ ¬ (S 20 4) ≤ (nI j)) → Q (some (.int (-1000001))) (am_hh X S L)) (k2 : ¬ (nI j) < 0 ∧ ¬ (S 20 4) ≤ (nI j) → Q (some (.int (-1000013))) (am_hh X (am_u S 5 12 3) L)) : am_mt (d + 4) 133 [.ref 5, .int (nI j), .int 2] (am_hh X S L) Q := by
  refine ax_in (ls := [some (.ref 5), some (.int (nI j)), some (.int 2)]) rfl ?_
  refine ax_s (pc' := 1) (st' := [.ref 5]) rfl rfl rfl rfl ?_
  refine ax_get rfl (hh_5 _ _ _) rfl rfl rfl ?_
  show am_ex (d + 4) 133 4 [some (.ref 5), some (.int (nI j)), some (.int 2)] [.ref 20] (am_hh X S L) _
  refine ax_s (pc' := 5) (st' := [.int (nI j), .ref 20]) rfl rfl rfl rfl ?_
  refine ax_call (vs := [.ref 20, .int (nI j)]) (rr := []) rfl rfl rfl ?_
  refine kw (am_hh_sub isW20 X S L) (am_hh_sub isW20 X S L).symm (fun _ => ct_hasParty (am_isW_k isW20 X S L)) ?_
  show am_ex (d + 4) 133 8 [some (.ref 5), some (.int (nI j)), some (.int 2)] [.int (bI (decide (¬ (nI j) < 0 ∧ ¬ (S 20 4) ≤ (nI j))))] (am_hh X S L) _
  refine ax_pF rfl (fun c1 => ?_) (fun c1 => ?_)
  · refine ax_s (pc' := 22) (st' := [.int (-1000001)]) rfl rfl rfl rfl ?_
    refine ax_r rfl rfl rfl ?_
    exact k1 c1
  · refine ax_s (pc' := 12) (st' := [.int 2]) rfl rfl rfl rfl ?_
    refine ax_s (pc' := 13) (st' := [.int 0, .int 2]) rfl rfl rfl rfl ?_
    refine ax_s (pc' := 14) (st' := [.int 5, .int 0, .int 2]) rfl rfl rfl rfl ?_
    refine ax_call (vs := [.int 2, .int 0, .int 5]) (rr := []) rfl rfl rfl ?_
    refine ct_isOutside ?_
    show am_ex (d + 4) 133 17 [some (.ref 5), some (.int (nI j)), some (.int 2)] [.int 0] (am_hh X S L) _
    refine ax_if_eq rfl (fun c2 => ?_) (fun c2 => False.elim (by revert c2; decide))
    refine ax_s (pc' := 24) (st' := [.ref 5]) rfl rfl rfl rfl ?_
    refine ax_get rfl (hh_5 _ _ _) rfl rfl rfl ?_
    show am_ex (d + 4) 133 27 [some (.ref 5), some (.int (nI j)), some (.int 2)] [.ref 20] (am_hh X S L) _
    refine ax_get rfl (hh_20 _ _ _) rfl rfl rfl ?_
    show am_ex (d + 4) 133 30 [some (.ref 5), some (.int (nI j)), some (.int 2)] [.ref 22] (am_hh X S L) _
    refine ax_s (pc' := 31) (st' := [.int (nI j), .ref 22]) rfl rfl rfl rfl ?_
    refine ax_ald (j := j) (v := 5) rfl (hh_22 _ _ _) rfl rfl (x1 c1) (by decide) hk ?_
    refine ax_s (pc' := 33) (st' := [.int 2, .int 5]) rfl rfl rfl rfl ?_
    refine ax_call (vs := [.int 5, .int 2]) (rr := []) rfl rfl rfl ?_
    refine kt_isSuch_5_2 ?_
    show am_ex (d + 4) 133 36 [some (.ref 5), some (.int (nI j)), some (.int 2)] [.int 0] (am_hh X S L) _
    refine ax_if_ne rfl (fun c3 => False.elim (by revert c3; decide)) (fun c3 => ?_)
    refine ax_s (pc' := 40) (st' := [.ref 5]) rfl rfl rfl rfl ?_
    refine ax_s (pc' := 41) (st' := [.int 3, .ref 5]) rfl rfl rfl rfl ?_
    refine ax_call (vs := [.ref 5, .int 3]) (rr := []) rfl rfl rfl ?_
    refine ax_in (ls := [some (.ref 5), some (.int 3)]) rfl ?_
    refine ax_s (pc' := 1) (st' := [.ref 5]) rfl rfl rfl rfl ?_
    refine ax_s (pc' := 2) (st' := [.int 3, .ref 5]) rfl rfl rfl rfl ?_
    refine ax_put rfl (hh_5 _ _ _) rfl rfl (show 12 + 1 ≤ _ from Nat.le_of_ble_eq_true rfl) rfl (am_hh_set _ _ _ 5 12 _ rfl) ?_
    refine ax_s (pc' := 8) (st' := [.int (-1000010)]) rfl rfl rfl rfl ?_
    refine ax_s (pc' := 9) (st' := [.int 3, .int (-1000010)]) rfl rfl rfl rfl ?_
    refine ax_s (pc' := 10) (st' := [.int (-1000013)]) rfl rfl rfl rfl ?_
    refine ax_r rfl rfl rfl ?_
    show am_ex (d + 4) 133 44 [some (.ref 5), some (.int (nI j)), some (.int 2)] [.int (-1000013)] (am_hh X (am_u S 5 12 3) L) _
    refine ax_r rfl rfl rfl ?_
    exact k2 c1
theorem wm_as_5_2 {d : Nat} {X : Nat × (Nat → Int32)} {S : Nat → Nat → Int32} {L : Nat → Int64} {j : Nat} {Q : Option Value → am_H → Prop} (hk : S 290 j = 5) (hj : j < 6)  (x1 : ¬ (nI j) < 0 ∧ ¬ (S 285 7) - 1 < (nI j) → j < 6) (k1 : ¬ (¬ (nI j) < 0 ∧ ¬ (S 285 7) - 1 < (nI j)) → Q (some (.int (-1000001))) (am_hh X S L)) (k2 : ¬ (nI j) < 0 ∧ ¬ (S 285 7) - 1 < (nI j) → Q (some (.int (-1000013))) (am_hh X (am_u S 285 3 3) L)) : am_mt (d + 4) 222 [.ref 285, .int (nI j), .int 2] (am_hh X S L) Q := by
  refine ax_in (ls := [some (.ref 285), some (.int (nI j)), some (.int 2)]) rfl ?_
  refine ax_s (pc' := 1) (st' := [.ref 285]) rfl rfl rfl rfl ?_
  refine ax_s (pc' := 2) (st' := [.int (nI j), .ref 285]) rfl rfl rfl rfl ?_
  refine ax_call (vs := [.ref 285, .int (nI j)]) (rr := []) rfl rfl rfl ?_
  refine mt_isParty  ?_
  show am_ex (d + 4) 222 5 [some (.ref 285), some (.int (nI j)), some (.int 2)] [.int (bI (decide (¬ (nI j) < 0 ∧ ¬ (S 285 7) - 1 < (nI j))))] (am_hh X S L) _
  refine ax_pF rfl (fun c1 => ?_) (fun c1 => ?_)
  · refine ax_s (pc' := 19) (st' := [.int (-1000001)]) rfl rfl rfl rfl ?_
    refine ax_r rfl rfl rfl ?_
    exact k1 c1
  · refine ax_s (pc' := 9) (st' := [.int 2]) rfl rfl rfl rfl ?_
    refine ax_s (pc' := 10) (st' := [.int 0, .int 2]) rfl rfl rfl rfl ?_
    refine ax_s (pc' := 11) (st' := [.int 5, .int 0, .int 2]) rfl rfl rfl rfl ?_
    refine ax_call (vs := [.int 2, .int 0, .int 5]) (rr := []) rfl rfl rfl ?_
    refine mt_in ?_
    show am_ex (d + 4) 222 14 [some (.ref 285), some (.int (nI j)), some (.int 2)] [.int 1] (am_hh X S L) _
    refine ax_if_ne rfl (fun c2 => ?_) (fun c2 => False.elim (by revert c2; decide))
    refine ax_s (pc' := 21) (st' := [.ref 285]) rfl rfl rfl rfl ?_
    refine ax_s (pc' := 22) (st' := [.int (nI j), .ref 285]) rfl rfl rfl rfl ?_
    refine ax_s (pc' := 23) (st' := [.int 2, .int (nI j), .ref 285]) rfl rfl rfl rfl ?_
    refine ax_call (vs := [.ref 285, .int (nI j), .int 2]) (rr := []) rfl rfl rfl ?_
    refine ax_in (ls := [some (.ref 285), some (.int (nI j)), some (.int 2), none]) rfl ?_
    refine ax_s (pc' := 1) (st' := [.ref 285]) rfl rfl rfl rfl ?_
    refine ax_get rfl (hh_285 _ _ _) rfl rfl rfl ?_
    show am_ex (d + 3) 223 4 [some (.ref 285), some (.int (nI j)), some (.int 2), none] [.ref 290] (am_hh X S L) _
    refine ax_s (pc' := 5) (st' := [.int (nI j), .ref 290]) rfl rfl rfl rfl ?_
    refine ax_ald (j := j) (v := 5) rfl (hh_290 _ _ _) rfl rfl (x1 c1) (by decide) hk ?_
    refine ax_s (pc' := 7) (ls' := [some (.ref 285), some (.int (nI j)), some (.int 2), some (.int 5)]) (st' := []) rfl rfl rfl rfl ?_
    refine ax_s (pc' := 8) (st' := [.int 2]) rfl rfl rfl rfl ?_
    refine ax_if_eq rfl (fun c3 => False.elim (by revert c3; decide)) (fun c3 => ?_)
    refine ax_s (pc' := 12) (st' := [.int 2]) rfl rfl rfl rfl ?_
    refine ax_s (pc' := 13) (st' := [.int 5, .int 2]) rfl rfl rfl rfl ?_
    refine ax_cmp_eq rfl (fun c4 => False.elim (by revert c4; decide)) (fun c4 => ?_)
    refine ax_s (pc' := 17) (st' := [.int 2]) rfl rfl rfl rfl ?_
    refine ax_s (pc' := 18) (st' := [.int 1, .int 2]) rfl rfl rfl rfl ?_
    refine ax_cmp_ne rfl (fun c5 => ?_) (fun c5 => False.elim (by revert c5; decide))
    refine ax_s (pc' := 27) (st' := [.int 2]) rfl rfl rfl rfl ?_
    refine ax_s (pc' := 28) (st' := [.int 4, .int 2]) rfl rfl rfl rfl ?_
    refine ax_cmp_ne rfl (fun c6 => ?_) (fun c6 => False.elim (by revert c6; decide))
    refine ax_s (pc' := 41) (st' := [.int 0]) rfl rfl rfl rfl ?_
    refine ax_rb (b := false) rfl rfl ?_
    show am_ex (d + 4) 222 26 [some (.ref 285), some (.int (nI j)), some (.int 2)] [.int 0] (am_hh X S L) _
    refine ax_if_ne rfl (fun c7 => False.elim (by revert c7; decide)) (fun c7 => ?_)
    refine ax_s (pc' := 30) (st' := [.ref 285]) rfl rfl rfl rfl ?_
    refine ax_s (pc' := 31) (st' := [.int 3, .ref 285]) rfl rfl rfl rfl ?_
    refine ax_call (vs := [.ref 285, .int 3]) (rr := []) rfl rfl rfl ?_
    refine ax_in (ls := [some (.ref 285), some (.int 3)]) rfl ?_
    refine ax_s (pc' := 1) (st' := [.ref 285]) rfl rfl rfl rfl ?_
    refine ax_s (pc' := 2) (st' := [.int 3, .ref 285]) rfl rfl rfl rfl ?_
    refine ax_put rfl (hh_285 _ _ _) rfl rfl (show 3 + 1 ≤ _ from Nat.le_of_ble_eq_true rfl) rfl (am_hh_set _ _ _ 285 3 _ rfl) ?_
    refine ax_s (pc' := 7) (st' := [.int (-1000010)]) rfl rfl rfl rfl ?_
    refine ax_s (pc' := 8) (st' := [.int 3, .int (-1000010)]) rfl rfl rfl rfl ?_
    refine ax_s (pc' := 9) (st' := [.int (-1000013)]) rfl rfl rfl rfl ?_
    refine ax_r rfl rfl rfl ?_
    show am_ex (d + 4) 222 34 [some (.ref 285), some (.int (nI j)), some (.int 2)] [.int (-1000013)] (am_hh X (am_u S 285 3 3) L) _
    refine ax_r rfl rfl rfl ?_
    exact k2 c1
theorem wk_as_5_3 {d : Nat} {X : Nat × (Nat → Int32)} {S : Nat → Nat → Int32} {L : Nat → Int64} {j : Nat} {Q : Option Value → am_H → Prop} (hk : S 22 j = 5) (hj : j < 6)  (x1 : ¬ (nI j) < 0 ∧ ¬ (S 20 4) ≤ (nI j) → j < 6) (k1 : ¬ (¬ (nI j) < 0 ∧ ¬ (S 20 4) ≤ (nI j)) → Q (some (.int (-1000001))) (am_hh X S L)) (k2 : ¬ (nI j) < 0 ∧ ¬ (S 20 4) ≤ (nI j) → Q (some (.int (-1000013))) (am_hh X (am_u S 5 12 3) L)) : am_mt (d + 4) 133 [.ref 5, .int (nI j), .int 3] (am_hh X S L) Q := by
  refine ax_in (ls := [some (.ref 5), some (.int (nI j)), some (.int 3)]) rfl ?_
  refine ax_s (pc' := 1) (st' := [.ref 5]) rfl rfl rfl rfl ?_
  refine ax_get rfl (hh_5 _ _ _) rfl rfl rfl ?_
  show am_ex (d + 4) 133 4 [some (.ref 5), some (.int (nI j)), some (.int 3)] [.ref 20] (am_hh X S L) _
  refine ax_s (pc' := 5) (st' := [.int (nI j), .ref 20]) rfl rfl rfl rfl ?_
  refine ax_call (vs := [.ref 20, .int (nI j)]) (rr := []) rfl rfl rfl ?_
  refine kw (am_hh_sub isW20 X S L) (am_hh_sub isW20 X S L).symm (fun _ => ct_hasParty (am_isW_k isW20 X S L)) ?_
  show am_ex (d + 4) 133 8 [some (.ref 5), some (.int (nI j)), some (.int 3)] [.int (bI (decide (¬ (nI j) < 0 ∧ ¬ (S 20 4) ≤ (nI j))))] (am_hh X S L) _
  refine ax_pF rfl (fun c1 => ?_) (fun c1 => ?_)
  · refine ax_s (pc' := 22) (st' := [.int (-1000001)]) rfl rfl rfl rfl ?_
    refine ax_r rfl rfl rfl ?_
    exact k1 c1
  · refine ax_s (pc' := 12) (st' := [.int 3]) rfl rfl rfl rfl ?_
    refine ax_s (pc' := 13) (st' := [.int 0, .int 3]) rfl rfl rfl rfl ?_
    refine ax_s (pc' := 14) (st' := [.int 5, .int 0, .int 3]) rfl rfl rfl rfl ?_
    refine ax_call (vs := [.int 3, .int 0, .int 5]) (rr := []) rfl rfl rfl ?_
    refine ct_isOutside ?_
    show am_ex (d + 4) 133 17 [some (.ref 5), some (.int (nI j)), some (.int 3)] [.int 0] (am_hh X S L) _
    refine ax_if_eq rfl (fun c2 => ?_) (fun c2 => False.elim (by revert c2; decide))
    refine ax_s (pc' := 24) (st' := [.ref 5]) rfl rfl rfl rfl ?_
    refine ax_get rfl (hh_5 _ _ _) rfl rfl rfl ?_
    show am_ex (d + 4) 133 27 [some (.ref 5), some (.int (nI j)), some (.int 3)] [.ref 20] (am_hh X S L) _
    refine ax_get rfl (hh_20 _ _ _) rfl rfl rfl ?_
    show am_ex (d + 4) 133 30 [some (.ref 5), some (.int (nI j)), some (.int 3)] [.ref 22] (am_hh X S L) _
    refine ax_s (pc' := 31) (st' := [.int (nI j), .ref 22]) rfl rfl rfl rfl ?_
    refine ax_ald (j := j) (v := 5) rfl (hh_22 _ _ _) rfl rfl (x1 c1) (by decide) hk ?_
    refine ax_s (pc' := 33) (st' := [.int 3, .int 5]) rfl rfl rfl rfl ?_
    refine ax_call (vs := [.int 5, .int 3]) (rr := []) rfl rfl rfl ?_
    refine kt_isSuch_5_3 ?_
    show am_ex (d + 4) 133 36 [some (.ref 5), some (.int (nI j)), some (.int 3)] [.int 0] (am_hh X S L) _
    refine ax_if_ne rfl (fun c3 => False.elim (by revert c3; decide)) (fun c3 => ?_)
    refine ax_s (pc' := 40) (st' := [.ref 5]) rfl rfl rfl rfl ?_
    refine ax_s (pc' := 41) (st' := [.int 3, .ref 5]) rfl rfl rfl rfl ?_
    refine ax_call (vs := [.ref 5, .int 3]) (rr := []) rfl rfl rfl ?_
    refine ax_in (ls := [some (.ref 5), some (.int 3)]) rfl ?_
    refine ax_s (pc' := 1) (st' := [.ref 5]) rfl rfl rfl rfl ?_
    refine ax_s (pc' := 2) (st' := [.int 3, .ref 5]) rfl rfl rfl rfl ?_
    refine ax_put rfl (hh_5 _ _ _) rfl rfl (show 12 + 1 ≤ _ from Nat.le_of_ble_eq_true rfl) rfl (am_hh_set _ _ _ 5 12 _ rfl) ?_
    refine ax_s (pc' := 8) (st' := [.int (-1000010)]) rfl rfl rfl rfl ?_
    refine ax_s (pc' := 9) (st' := [.int 3, .int (-1000010)]) rfl rfl rfl rfl ?_
    refine ax_s (pc' := 10) (st' := [.int (-1000013)]) rfl rfl rfl rfl ?_
    refine ax_r rfl rfl rfl ?_
    show am_ex (d + 4) 133 44 [some (.ref 5), some (.int (nI j)), some (.int 3)] [.int (-1000013)] (am_hh X (am_u S 5 12 3) L) _
    refine ax_r rfl rfl rfl ?_
    exact k2 c1
theorem wm_as_5_3 {d : Nat} {X : Nat × (Nat → Int32)} {S : Nat → Nat → Int32} {L : Nat → Int64} {j : Nat} {Q : Option Value → am_H → Prop} (hk : S 290 j = 5) (hj : j < 6)  (x1 : ¬ (nI j) < 0 ∧ ¬ (S 285 7) - 1 < (nI j) → j < 6) (k1 : ¬ (¬ (nI j) < 0 ∧ ¬ (S 285 7) - 1 < (nI j)) → Q (some (.int (-1000001))) (am_hh X S L)) (k2 : ¬ (nI j) < 0 ∧ ¬ (S 285 7) - 1 < (nI j) → Q (some (.int (-1000013))) (am_hh X (am_u S 285 3 3) L)) : am_mt (d + 4) 222 [.ref 285, .int (nI j), .int 3] (am_hh X S L) Q := by
  refine ax_in (ls := [some (.ref 285), some (.int (nI j)), some (.int 3)]) rfl ?_
  refine ax_s (pc' := 1) (st' := [.ref 285]) rfl rfl rfl rfl ?_
  refine ax_s (pc' := 2) (st' := [.int (nI j), .ref 285]) rfl rfl rfl rfl ?_
  refine ax_call (vs := [.ref 285, .int (nI j)]) (rr := []) rfl rfl rfl ?_
  refine mt_isParty  ?_
  show am_ex (d + 4) 222 5 [some (.ref 285), some (.int (nI j)), some (.int 3)] [.int (bI (decide (¬ (nI j) < 0 ∧ ¬ (S 285 7) - 1 < (nI j))))] (am_hh X S L) _
  refine ax_pF rfl (fun c1 => ?_) (fun c1 => ?_)
  · refine ax_s (pc' := 19) (st' := [.int (-1000001)]) rfl rfl rfl rfl ?_
    refine ax_r rfl rfl rfl ?_
    exact k1 c1
  · refine ax_s (pc' := 9) (st' := [.int 3]) rfl rfl rfl rfl ?_
    refine ax_s (pc' := 10) (st' := [.int 0, .int 3]) rfl rfl rfl rfl ?_
    refine ax_s (pc' := 11) (st' := [.int 5, .int 0, .int 3]) rfl rfl rfl rfl ?_
    refine ax_call (vs := [.int 3, .int 0, .int 5]) (rr := []) rfl rfl rfl ?_
    refine mt_in ?_
    show am_ex (d + 4) 222 14 [some (.ref 285), some (.int (nI j)), some (.int 3)] [.int 1] (am_hh X S L) _
    refine ax_if_ne rfl (fun c2 => ?_) (fun c2 => False.elim (by revert c2; decide))
    refine ax_s (pc' := 21) (st' := [.ref 285]) rfl rfl rfl rfl ?_
    refine ax_s (pc' := 22) (st' := [.int (nI j), .ref 285]) rfl rfl rfl rfl ?_
    refine ax_s (pc' := 23) (st' := [.int 3, .int (nI j), .ref 285]) rfl rfl rfl rfl ?_
    refine ax_call (vs := [.ref 285, .int (nI j), .int 3]) (rr := []) rfl rfl rfl ?_
    refine ax_in (ls := [some (.ref 285), some (.int (nI j)), some (.int 3), none]) rfl ?_
    refine ax_s (pc' := 1) (st' := [.ref 285]) rfl rfl rfl rfl ?_
    refine ax_get rfl (hh_285 _ _ _) rfl rfl rfl ?_
    show am_ex (d + 3) 223 4 [some (.ref 285), some (.int (nI j)), some (.int 3), none] [.ref 290] (am_hh X S L) _
    refine ax_s (pc' := 5) (st' := [.int (nI j), .ref 290]) rfl rfl rfl rfl ?_
    refine ax_ald (j := j) (v := 5) rfl (hh_290 _ _ _) rfl rfl (x1 c1) (by decide) hk ?_
    refine ax_s (pc' := 7) (ls' := [some (.ref 285), some (.int (nI j)), some (.int 3), some (.int 5)]) (st' := []) rfl rfl rfl rfl ?_
    refine ax_s (pc' := 8) (st' := [.int 3]) rfl rfl rfl rfl ?_
    refine ax_if_eq rfl (fun c3 => False.elim (by revert c3; decide)) (fun c3 => ?_)
    refine ax_s (pc' := 12) (st' := [.int 3]) rfl rfl rfl rfl ?_
    refine ax_s (pc' := 13) (st' := [.int 5, .int 3]) rfl rfl rfl rfl ?_
    refine ax_cmp_eq rfl (fun c4 => False.elim (by revert c4; decide)) (fun c4 => ?_)
    refine ax_s (pc' := 17) (st' := [.int 3]) rfl rfl rfl rfl ?_
    refine ax_s (pc' := 18) (st' := [.int 1, .int 3]) rfl rfl rfl rfl ?_
    refine ax_cmp_ne rfl (fun c5 => ?_) (fun c5 => False.elim (by revert c5; decide))
    refine ax_s (pc' := 27) (st' := [.int 3]) rfl rfl rfl rfl ?_
    refine ax_s (pc' := 28) (st' := [.int 4, .int 3]) rfl rfl rfl rfl ?_
    refine ax_cmp_ne rfl (fun c6 => ?_) (fun c6 => False.elim (by revert c6; decide))
    refine ax_s (pc' := 41) (st' := [.int 0]) rfl rfl rfl rfl ?_
    refine ax_rb (b := false) rfl rfl ?_
    show am_ex (d + 4) 222 26 [some (.ref 285), some (.int (nI j)), some (.int 3)] [.int 0] (am_hh X S L) _
    refine ax_if_ne rfl (fun c7 => False.elim (by revert c7; decide)) (fun c7 => ?_)
    refine ax_s (pc' := 30) (st' := [.ref 285]) rfl rfl rfl rfl ?_
    refine ax_s (pc' := 31) (st' := [.int 3, .ref 285]) rfl rfl rfl rfl ?_
    refine ax_call (vs := [.ref 285, .int 3]) (rr := []) rfl rfl rfl ?_
    refine ax_in (ls := [some (.ref 285), some (.int 3)]) rfl ?_
    refine ax_s (pc' := 1) (st' := [.ref 285]) rfl rfl rfl rfl ?_
    refine ax_s (pc' := 2) (st' := [.int 3, .ref 285]) rfl rfl rfl rfl ?_
    refine ax_put rfl (hh_285 _ _ _) rfl rfl (show 3 + 1 ≤ _ from Nat.le_of_ble_eq_true rfl) rfl (am_hh_set _ _ _ 285 3 _ rfl) ?_
    refine ax_s (pc' := 7) (st' := [.int (-1000010)]) rfl rfl rfl rfl ?_
    refine ax_s (pc' := 8) (st' := [.int 3, .int (-1000010)]) rfl rfl rfl rfl ?_
    refine ax_s (pc' := 9) (st' := [.int (-1000013)]) rfl rfl rfl rfl ?_
    refine ax_r rfl rfl rfl ?_
    show am_ex (d + 4) 222 34 [some (.ref 285), some (.int (nI j)), some (.int 3)] [.int (-1000013)] (am_hh X (am_u S 285 3 3) L) _
    refine ax_r rfl rfl rfl ?_
    exact k2 c1
theorem wk_as_5_4 {d : Nat} {X : Nat × (Nat → Int32)} {S : Nat → Nat → Int32} {L : Nat → Int64} {j : Nat} {Q : Option Value → am_H → Prop} (hk : S 22 j = 5) (hj : j < 6)  (x1 : ¬ (nI j) < 0 ∧ ¬ (S 20 4) ≤ (nI j) → j < 6) (k1 : ¬ (¬ (nI j) < 0 ∧ ¬ (S 20 4) ≤ (nI j)) → Q (some (.int (-1000001))) (am_hh X S L)) (k2 : ¬ (nI j) < 0 ∧ ¬ (S 20 4) ≤ (nI j) → Q (some (.int (nI j))) (am_hh X (am_u S 5 12 0) L)) : am_mt (d + 4) 133 [.ref 5, .int (nI j), .int 4] (am_hh X S L) Q := by
  refine ax_in (ls := [some (.ref 5), some (.int (nI j)), some (.int 4)]) rfl ?_
  refine ax_s (pc' := 1) (st' := [.ref 5]) rfl rfl rfl rfl ?_
  refine ax_get rfl (hh_5 _ _ _) rfl rfl rfl ?_
  show am_ex (d + 4) 133 4 [some (.ref 5), some (.int (nI j)), some (.int 4)] [.ref 20] (am_hh X S L) _
  refine ax_s (pc' := 5) (st' := [.int (nI j), .ref 20]) rfl rfl rfl rfl ?_
  refine ax_call (vs := [.ref 20, .int (nI j)]) (rr := []) rfl rfl rfl ?_
  refine kw (am_hh_sub isW20 X S L) (am_hh_sub isW20 X S L).symm (fun _ => ct_hasParty (am_isW_k isW20 X S L)) ?_
  show am_ex (d + 4) 133 8 [some (.ref 5), some (.int (nI j)), some (.int 4)] [.int (bI (decide (¬ (nI j) < 0 ∧ ¬ (S 20 4) ≤ (nI j))))] (am_hh X S L) _
  refine ax_pF rfl (fun c1 => ?_) (fun c1 => ?_)
  · refine ax_s (pc' := 22) (st' := [.int (-1000001)]) rfl rfl rfl rfl ?_
    refine ax_r rfl rfl rfl ?_
    exact k1 c1
  · refine ax_s (pc' := 12) (st' := [.int 4]) rfl rfl rfl rfl ?_
    refine ax_s (pc' := 13) (st' := [.int 0, .int 4]) rfl rfl rfl rfl ?_
    refine ax_s (pc' := 14) (st' := [.int 5, .int 0, .int 4]) rfl rfl rfl rfl ?_
    refine ax_call (vs := [.int 4, .int 0, .int 5]) (rr := []) rfl rfl rfl ?_
    refine ct_isOutside ?_
    show am_ex (d + 4) 133 17 [some (.ref 5), some (.int (nI j)), some (.int 4)] [.int 0] (am_hh X S L) _
    refine ax_if_eq rfl (fun c2 => ?_) (fun c2 => False.elim (by revert c2; decide))
    refine ax_s (pc' := 24) (st' := [.ref 5]) rfl rfl rfl rfl ?_
    refine ax_get rfl (hh_5 _ _ _) rfl rfl rfl ?_
    show am_ex (d + 4) 133 27 [some (.ref 5), some (.int (nI j)), some (.int 4)] [.ref 20] (am_hh X S L) _
    refine ax_get rfl (hh_20 _ _ _) rfl rfl rfl ?_
    show am_ex (d + 4) 133 30 [some (.ref 5), some (.int (nI j)), some (.int 4)] [.ref 22] (am_hh X S L) _
    refine ax_s (pc' := 31) (st' := [.int (nI j), .ref 22]) rfl rfl rfl rfl ?_
    refine ax_ald (j := j) (v := 5) rfl (hh_22 _ _ _) rfl rfl (x1 c1) (by decide) hk ?_
    refine ax_s (pc' := 33) (st' := [.int 4, .int 5]) rfl rfl rfl rfl ?_
    refine ax_call (vs := [.int 5, .int 4]) (rr := []) rfl rfl rfl ?_
    refine kt_isSuch_5_4 ?_
    show am_ex (d + 4) 133 36 [some (.ref 5), some (.int (nI j)), some (.int 4)] [.int 1] (am_hh X S L) _
    refine ax_if_ne rfl (fun c3 => ?_) (fun c3 => False.elim (by revert c3; decide))
    refine ax_s (pc' := 46) (st' := [.ref 5]) rfl rfl rfl rfl ?_
    refine ax_s (pc' := 47) (st' := [.int (nI j), .ref 5]) rfl rfl rfl rfl ?_
    refine ax_call (vs := [.ref 5, .int (nI j)]) (rr := []) rfl rfl rfl ?_
    refine ax_in (ls := [some (.ref 5), some (.int (nI j))]) rfl ?_
    refine ax_s (pc' := 1) (st' := [.ref 5]) rfl rfl rfl rfl ?_
    refine ax_s (pc' := 2) (st' := [.int 0, .ref 5]) rfl rfl rfl rfl ?_
    refine ax_put rfl (hh_5 _ _ _) rfl rfl (show 12 + 1 ≤ _ from Nat.le_of_ble_eq_true rfl) rfl (am_hh_set _ _ _ 5 12 _ rfl) ?_
    refine ax_s (pc' := 6) (st' := [.int (nI j)]) rfl rfl rfl rfl ?_
    refine ax_r rfl rfl rfl ?_
    show am_ex (d + 4) 133 50 [some (.ref 5), some (.int (nI j)), some (.int 4)] [.int (nI j)] (am_hh X (am_u S 5 12 0) L) _
    refine ax_r rfl rfl rfl ?_
    exact k2 c1
theorem wm_as_5_4 {d : Nat} {X : Nat × (Nat → Int32)} {S : Nat → Nat → Int32} {L : Nat → Int64} {j : Nat} {Q : Option Value → am_H → Prop} (hk : S 290 j = 5) (hj : j < 6)  (x1 : ¬ (nI j) < 0 ∧ ¬ (S 285 7) - 1 < (nI j) → j < 6) (k1 : ¬ (¬ (nI j) < 0 ∧ ¬ (S 285 7) - 1 < (nI j)) → Q (some (.int (-1000001))) (am_hh X S L)) (k2 : ¬ (nI j) < 0 ∧ ¬ (S 285 7) - 1 < (nI j) → Q (some (.int (nI j))) (am_hh X (am_u S 285 3 0) L)) : am_mt (d + 4) 222 [.ref 285, .int (nI j), .int 4] (am_hh X S L) Q := by
  refine ax_in (ls := [some (.ref 285), some (.int (nI j)), some (.int 4)]) rfl ?_
  refine ax_s (pc' := 1) (st' := [.ref 285]) rfl rfl rfl rfl ?_
  refine ax_s (pc' := 2) (st' := [.int (nI j), .ref 285]) rfl rfl rfl rfl ?_
  refine ax_call (vs := [.ref 285, .int (nI j)]) (rr := []) rfl rfl rfl ?_
  refine mt_isParty  ?_
  show am_ex (d + 4) 222 5 [some (.ref 285), some (.int (nI j)), some (.int 4)] [.int (bI (decide (¬ (nI j) < 0 ∧ ¬ (S 285 7) - 1 < (nI j))))] (am_hh X S L) _
  refine ax_pF rfl (fun c1 => ?_) (fun c1 => ?_)
  · refine ax_s (pc' := 19) (st' := [.int (-1000001)]) rfl rfl rfl rfl ?_
    refine ax_r rfl rfl rfl ?_
    exact k1 c1
  · refine ax_s (pc' := 9) (st' := [.int 4]) rfl rfl rfl rfl ?_
    refine ax_s (pc' := 10) (st' := [.int 0, .int 4]) rfl rfl rfl rfl ?_
    refine ax_s (pc' := 11) (st' := [.int 5, .int 0, .int 4]) rfl rfl rfl rfl ?_
    refine ax_call (vs := [.int 4, .int 0, .int 5]) (rr := []) rfl rfl rfl ?_
    refine mt_in ?_
    show am_ex (d + 4) 222 14 [some (.ref 285), some (.int (nI j)), some (.int 4)] [.int 1] (am_hh X S L) _
    refine ax_if_ne rfl (fun c2 => ?_) (fun c2 => False.elim (by revert c2; decide))
    refine ax_s (pc' := 21) (st' := [.ref 285]) rfl rfl rfl rfl ?_
    refine ax_s (pc' := 22) (st' := [.int (nI j), .ref 285]) rfl rfl rfl rfl ?_
    refine ax_s (pc' := 23) (st' := [.int 4, .int (nI j), .ref 285]) rfl rfl rfl rfl ?_
    refine ax_call (vs := [.ref 285, .int (nI j), .int 4]) (rr := []) rfl rfl rfl ?_
    refine ax_in (ls := [some (.ref 285), some (.int (nI j)), some (.int 4), none]) rfl ?_
    refine ax_s (pc' := 1) (st' := [.ref 285]) rfl rfl rfl rfl ?_
    refine ax_get rfl (hh_285 _ _ _) rfl rfl rfl ?_
    show am_ex (d + 3) 223 4 [some (.ref 285), some (.int (nI j)), some (.int 4), none] [.ref 290] (am_hh X S L) _
    refine ax_s (pc' := 5) (st' := [.int (nI j), .ref 290]) rfl rfl rfl rfl ?_
    refine ax_ald (j := j) (v := 5) rfl (hh_290 _ _ _) rfl rfl (x1 c1) (by decide) hk ?_
    refine ax_s (pc' := 7) (ls' := [some (.ref 285), some (.int (nI j)), some (.int 4), some (.int 5)]) (st' := []) rfl rfl rfl rfl ?_
    refine ax_s (pc' := 8) (st' := [.int 4]) rfl rfl rfl rfl ?_
    refine ax_if_eq rfl (fun c3 => False.elim (by revert c3; decide)) (fun c3 => ?_)
    refine ax_s (pc' := 12) (st' := [.int 4]) rfl rfl rfl rfl ?_
    refine ax_s (pc' := 13) (st' := [.int 5, .int 4]) rfl rfl rfl rfl ?_
    refine ax_cmp_eq rfl (fun c4 => False.elim (by revert c4; decide)) (fun c4 => ?_)
    refine ax_s (pc' := 17) (st' := [.int 4]) rfl rfl rfl rfl ?_
    refine ax_s (pc' := 18) (st' := [.int 1, .int 4]) rfl rfl rfl rfl ?_
    refine ax_cmp_ne rfl (fun c5 => ?_) (fun c5 => False.elim (by revert c5; decide))
    refine ax_s (pc' := 27) (st' := [.int 4]) rfl rfl rfl rfl ?_
    refine ax_s (pc' := 28) (st' := [.int 4, .int 4]) rfl rfl rfl rfl ?_
    refine ax_cmp_ne rfl (fun c6 => False.elim (by revert c6; decide)) (fun c6 => ?_)
    refine ax_s (pc' := 32) (st' := [.int 5]) rfl rfl rfl rfl ?_
    refine ax_s (pc' := 33) (st' := [.int 5, .int 5]) rfl rfl rfl rfl ?_
    refine ax_cmp_ne rfl (fun c7 => False.elim (by revert c7; decide)) (fun c7 => ?_)
    refine ax_s (pc' := 37) (st' := [.int 1]) rfl rfl rfl rfl ?_
    refine ax_s (pc' := 41) (st' := [.int 1]) rfl rfl rfl rfl ?_
    refine ax_rb (b := true) rfl rfl ?_
    show am_ex (d + 4) 222 26 [some (.ref 285), some (.int (nI j)), some (.int 4)] [.int 1] (am_hh X S L) _
    refine ax_if_ne rfl (fun c8 => ?_) (fun c8 => False.elim (by revert c8; decide))
    refine ax_s (pc' := 36) (st' := [.ref 285]) rfl rfl rfl rfl ?_
    refine ax_s (pc' := 37) (st' := [.int 0, .ref 285]) rfl rfl rfl rfl ?_
    refine ax_put rfl (hh_285 _ _ _) rfl rfl (show 3 + 1 ≤ _ from Nat.le_of_ble_eq_true rfl) rfl (am_hh_set _ _ _ 285 3 _ rfl) ?_
    refine ax_s (pc' := 41) (st' := [.int (nI j)]) rfl rfl rfl rfl ?_
    refine ax_r rfl rfl rfl ?_
    exact k2 c1
theorem wk_as_5_5 {d : Nat} {X : Nat × (Nat → Int32)} {S : Nat → Nat → Int32} {L : Nat → Int64} {j : Nat} {Q : Option Value → am_H → Prop} (hk : S 22 j = 5) (hj : j < 6)  (x1 : ¬ (nI j) < 0 ∧ ¬ (S 20 4) ≤ (nI j) → j < 6) (k1 : ¬ (¬ (nI j) < 0 ∧ ¬ (S 20 4) ≤ (nI j)) → Q (some (.int (-1000001))) (am_hh X S L)) (k2 : ¬ (nI j) < 0 ∧ ¬ (S 20 4) ≤ (nI j) → Q (some (.int (nI j))) (am_hh X (am_u S 5 12 0) L)) : am_mt (d + 4) 133 [.ref 5, .int (nI j), .int 5] (am_hh X S L) Q := by
  refine ax_in (ls := [some (.ref 5), some (.int (nI j)), some (.int 5)]) rfl ?_
  refine ax_s (pc' := 1) (st' := [.ref 5]) rfl rfl rfl rfl ?_
  refine ax_get rfl (hh_5 _ _ _) rfl rfl rfl ?_
  show am_ex (d + 4) 133 4 [some (.ref 5), some (.int (nI j)), some (.int 5)] [.ref 20] (am_hh X S L) _
  refine ax_s (pc' := 5) (st' := [.int (nI j), .ref 20]) rfl rfl rfl rfl ?_
  refine ax_call (vs := [.ref 20, .int (nI j)]) (rr := []) rfl rfl rfl ?_
  refine kw (am_hh_sub isW20 X S L) (am_hh_sub isW20 X S L).symm (fun _ => ct_hasParty (am_isW_k isW20 X S L)) ?_
  show am_ex (d + 4) 133 8 [some (.ref 5), some (.int (nI j)), some (.int 5)] [.int (bI (decide (¬ (nI j) < 0 ∧ ¬ (S 20 4) ≤ (nI j))))] (am_hh X S L) _
  refine ax_pF rfl (fun c1 => ?_) (fun c1 => ?_)
  · refine ax_s (pc' := 22) (st' := [.int (-1000001)]) rfl rfl rfl rfl ?_
    refine ax_r rfl rfl rfl ?_
    exact k1 c1
  · refine ax_s (pc' := 12) (st' := [.int 5]) rfl rfl rfl rfl ?_
    refine ax_s (pc' := 13) (st' := [.int 0, .int 5]) rfl rfl rfl rfl ?_
    refine ax_s (pc' := 14) (st' := [.int 5, .int 0, .int 5]) rfl rfl rfl rfl ?_
    refine ax_call (vs := [.int 5, .int 0, .int 5]) (rr := []) rfl rfl rfl ?_
    refine ct_isOutside ?_
    show am_ex (d + 4) 133 17 [some (.ref 5), some (.int (nI j)), some (.int 5)] [.int 0] (am_hh X S L) _
    refine ax_if_eq rfl (fun c2 => ?_) (fun c2 => False.elim (by revert c2; decide))
    refine ax_s (pc' := 24) (st' := [.ref 5]) rfl rfl rfl rfl ?_
    refine ax_get rfl (hh_5 _ _ _) rfl rfl rfl ?_
    show am_ex (d + 4) 133 27 [some (.ref 5), some (.int (nI j)), some (.int 5)] [.ref 20] (am_hh X S L) _
    refine ax_get rfl (hh_20 _ _ _) rfl rfl rfl ?_
    show am_ex (d + 4) 133 30 [some (.ref 5), some (.int (nI j)), some (.int 5)] [.ref 22] (am_hh X S L) _
    refine ax_s (pc' := 31) (st' := [.int (nI j), .ref 22]) rfl rfl rfl rfl ?_
    refine ax_ald (j := j) (v := 5) rfl (hh_22 _ _ _) rfl rfl (x1 c1) (by decide) hk ?_
    refine ax_s (pc' := 33) (st' := [.int 5, .int 5]) rfl rfl rfl rfl ?_
    refine ax_call (vs := [.int 5, .int 5]) (rr := []) rfl rfl rfl ?_
    refine kt_isSuch_5_5 ?_
    show am_ex (d + 4) 133 36 [some (.ref 5), some (.int (nI j)), some (.int 5)] [.int 1] (am_hh X S L) _
    refine ax_if_ne rfl (fun c3 => ?_) (fun c3 => False.elim (by revert c3; decide))
    refine ax_s (pc' := 46) (st' := [.ref 5]) rfl rfl rfl rfl ?_
    refine ax_s (pc' := 47) (st' := [.int (nI j), .ref 5]) rfl rfl rfl rfl ?_
    refine ax_call (vs := [.ref 5, .int (nI j)]) (rr := []) rfl rfl rfl ?_
    refine ax_in (ls := [some (.ref 5), some (.int (nI j))]) rfl ?_
    refine ax_s (pc' := 1) (st' := [.ref 5]) rfl rfl rfl rfl ?_
    refine ax_s (pc' := 2) (st' := [.int 0, .ref 5]) rfl rfl rfl rfl ?_
    refine ax_put rfl (hh_5 _ _ _) rfl rfl (show 12 + 1 ≤ _ from Nat.le_of_ble_eq_true rfl) rfl (am_hh_set _ _ _ 5 12 _ rfl) ?_
    refine ax_s (pc' := 6) (st' := [.int (nI j)]) rfl rfl rfl rfl ?_
    refine ax_r rfl rfl rfl ?_
    show am_ex (d + 4) 133 50 [some (.ref 5), some (.int (nI j)), some (.int 5)] [.int (nI j)] (am_hh X (am_u S 5 12 0) L) _
    refine ax_r rfl rfl rfl ?_
    exact k2 c1
theorem wm_as_5_5 {d : Nat} {X : Nat × (Nat → Int32)} {S : Nat → Nat → Int32} {L : Nat → Int64} {j : Nat} {Q : Option Value → am_H → Prop} (hk : S 290 j = 5) (hj : j < 6)  (x1 : ¬ (nI j) < 0 ∧ ¬ (S 285 7) - 1 < (nI j) → j < 6) (k1 : ¬ (¬ (nI j) < 0 ∧ ¬ (S 285 7) - 1 < (nI j)) → Q (some (.int (-1000001))) (am_hh X S L)) (k2 : ¬ (nI j) < 0 ∧ ¬ (S 285 7) - 1 < (nI j) → Q (some (.int (nI j))) (am_hh X (am_u S 285 3 0) L)) : am_mt (d + 4) 222 [.ref 285, .int (nI j), .int 5] (am_hh X S L) Q := by
  refine ax_in (ls := [some (.ref 285), some (.int (nI j)), some (.int 5)]) rfl ?_
  refine ax_s (pc' := 1) (st' := [.ref 285]) rfl rfl rfl rfl ?_
  refine ax_s (pc' := 2) (st' := [.int (nI j), .ref 285]) rfl rfl rfl rfl ?_
  refine ax_call (vs := [.ref 285, .int (nI j)]) (rr := []) rfl rfl rfl ?_
  refine mt_isParty  ?_
  show am_ex (d + 4) 222 5 [some (.ref 285), some (.int (nI j)), some (.int 5)] [.int (bI (decide (¬ (nI j) < 0 ∧ ¬ (S 285 7) - 1 < (nI j))))] (am_hh X S L) _
  refine ax_pF rfl (fun c1 => ?_) (fun c1 => ?_)
  · refine ax_s (pc' := 19) (st' := [.int (-1000001)]) rfl rfl rfl rfl ?_
    refine ax_r rfl rfl rfl ?_
    exact k1 c1
  · refine ax_s (pc' := 9) (st' := [.int 5]) rfl rfl rfl rfl ?_
    refine ax_s (pc' := 10) (st' := [.int 0, .int 5]) rfl rfl rfl rfl ?_
    refine ax_s (pc' := 11) (st' := [.int 5, .int 0, .int 5]) rfl rfl rfl rfl ?_
    refine ax_call (vs := [.int 5, .int 0, .int 5]) (rr := []) rfl rfl rfl ?_
    refine mt_in ?_
    show am_ex (d + 4) 222 14 [some (.ref 285), some (.int (nI j)), some (.int 5)] [.int 1] (am_hh X S L) _
    refine ax_if_ne rfl (fun c2 => ?_) (fun c2 => False.elim (by revert c2; decide))
    refine ax_s (pc' := 21) (st' := [.ref 285]) rfl rfl rfl rfl ?_
    refine ax_s (pc' := 22) (st' := [.int (nI j), .ref 285]) rfl rfl rfl rfl ?_
    refine ax_s (pc' := 23) (st' := [.int 5, .int (nI j), .ref 285]) rfl rfl rfl rfl ?_
    refine ax_call (vs := [.ref 285, .int (nI j), .int 5]) (rr := []) rfl rfl rfl ?_
    refine ax_in (ls := [some (.ref 285), some (.int (nI j)), some (.int 5), none]) rfl ?_
    refine ax_s (pc' := 1) (st' := [.ref 285]) rfl rfl rfl rfl ?_
    refine ax_get rfl (hh_285 _ _ _) rfl rfl rfl ?_
    show am_ex (d + 3) 223 4 [some (.ref 285), some (.int (nI j)), some (.int 5), none] [.ref 290] (am_hh X S L) _
    refine ax_s (pc' := 5) (st' := [.int (nI j), .ref 290]) rfl rfl rfl rfl ?_
    refine ax_ald (j := j) (v := 5) rfl (hh_290 _ _ _) rfl rfl (x1 c1) (by decide) hk ?_
    refine ax_s (pc' := 7) (ls' := [some (.ref 285), some (.int (nI j)), some (.int 5), some (.int 5)]) (st' := []) rfl rfl rfl rfl ?_
    refine ax_s (pc' := 8) (st' := [.int 5]) rfl rfl rfl rfl ?_
    refine ax_if_eq rfl (fun c3 => False.elim (by revert c3; decide)) (fun c3 => ?_)
    refine ax_s (pc' := 12) (st' := [.int 5]) rfl rfl rfl rfl ?_
    refine ax_s (pc' := 13) (st' := [.int 5, .int 5]) rfl rfl rfl rfl ?_
    refine ax_cmp_eq rfl (fun c4 => ?_) (fun c4 => False.elim (by revert c4; decide))
    refine ax_s (pc' := 37) (st' := [.int 1]) rfl rfl rfl rfl ?_
    refine ax_s (pc' := 41) (st' := [.int 1]) rfl rfl rfl rfl ?_
    refine ax_rb (b := true) rfl rfl ?_
    show am_ex (d + 4) 222 26 [some (.ref 285), some (.int (nI j)), some (.int 5)] [.int 1] (am_hh X S L) _
    refine ax_if_ne rfl (fun c5 => ?_) (fun c5 => False.elim (by revert c5; decide))
    refine ax_s (pc' := 36) (st' := [.ref 285]) rfl rfl rfl rfl ?_
    refine ax_s (pc' := 37) (st' := [.int 0, .ref 285]) rfl rfl rfl rfl ?_
    refine ax_put rfl (hh_285 _ _ _) rfl rfl (show 3 + 1 ≤ _ from Nat.le_of_ble_eq_true rfl) rfl (am_hh_set _ _ _ 285 3 _ rfl) ?_
    refine ax_s (pc' := 41) (st' := [.int (nI j)]) rfl rfl rfl rfl ?_
    refine ax_r rfl rfl rfl ?_
    exact k2 c1
def g_k_as (S : Nat → Nat → Int32) (p q : Int32) : Prop := (¬ p < 0 ∧ ¬ (S 20 4) ≤ p) ∧ (¬ (q < 0 ∨ 5 < q))
def eg_k_as (S : Nat → Nat → Int32) (p q : Int32) : Int32 := (if ¬ p < 0 ∧ ¬ (S 20 4) ≤ p then (if q < 0 ∨ 5 < q then (-1000001) else 0) else (-1000001))
theorem wg_k_as {d : Nat} {X : Nat × (Nat → Int32)} {S : Nat → Nat → Int32} {L : Nat → Int64} {p q : Int32} {Q : Option Value → am_H → Prop}   (hb : ¬ g_k_as S p q) (hQ : Q (some (.int (eg_k_as S p q))) (am_hh X S L)) : am_mt (d + 4) 133 [.ref 5, .int p, .int q] (am_hh X S L) Q := by
  refine ax_in (ls := [some (.ref 5), some (.int p), some (.int q)]) rfl ?_
  refine ax_s (pc' := 1) (st' := [.ref 5]) rfl rfl rfl rfl ?_
  refine ax_get rfl (hh_5 _ _ _) rfl rfl rfl ?_
  show am_ex (d + 4) 133 4 [some (.ref 5), some (.int p), some (.int q)] [.ref 20] (am_hh X S L) _
  refine ax_s (pc' := 5) (st' := [.int p, .ref 20]) rfl rfl rfl rfl ?_
  refine ax_call (vs := [.ref 20, .int p]) (rr := []) rfl rfl rfl ?_
  refine kw (am_hh_sub isW20 X S L) (am_hh_sub isW20 X S L).symm (fun _ => ct_hasParty (am_isW_k isW20 X S L)) ?_
  show am_ex (d + 4) 133 8 [some (.ref 5), some (.int p), some (.int q)] [.int (bI (decide (¬ p < 0 ∧ ¬ (S 20 4) ≤ p)))] (am_hh X S L) _
  refine ax_pF rfl (fun c1 => ?_) (fun c1 => ?_)
  · refine ax_s (pc' := 22) (st' := [.int (-1000001)]) rfl rfl rfl rfl ?_
    refine ax_r rfl rfl rfl ?_
    unfold eg_k_as at hQ
    rw [if_neg c1] at hQ
    exact hQ
  · refine ax_s (pc' := 12) (st' := [.int q]) rfl rfl rfl rfl ?_
    refine ax_s (pc' := 13) (st' := [.int 0, .int q]) rfl rfl rfl rfl ?_
    refine ax_s (pc' := 14) (st' := [.int 5, .int 0, .int q]) rfl rfl rfl rfl ?_
    refine ax_call (vs := [.int q, .int 0, .int 5]) (rr := []) rfl rfl rfl ?_
    refine ct_isOutside ?_
    show am_ex (d + 4) 133 17 [some (.ref 5), some (.int p), some (.int q)] [.int (bI (decide (q < 0 ∨ 5 < q)))] (am_hh X S L) _
    refine ax_pF rfl (fun c2 => ?_) (fun c2 => ?_)
    · exact absurd ⟨c1, c2⟩ hb
    · refine ax_s (pc' := 22) (st' := [.int (-1000001)]) rfl rfl rfl rfl ?_
      refine ax_r rfl rfl rfl ?_
      unfold eg_k_as at hQ
      rw [if_pos c1, if_pos c2] at hQ
      exact hQ
def g_m_as (S : Nat → Nat → Int32) (p q : Int32) : Prop := (¬ p < 0 ∧ ¬ (S 285 7) - 1 < p) ∧ (¬ q < 0 ∧ ¬ 5 < q)
def eg_m_as (S : Nat → Nat → Int32) (p q : Int32) : Int32 := (if ¬ p < 0 ∧ ¬ (S 285 7) - 1 < p then (if ¬ q < 0 ∧ ¬ 5 < q then 0 else (-1000001)) else (-1000001))
theorem wg_m_as {d : Nat} {X : Nat × (Nat → Int32)} {S : Nat → Nat → Int32} {L : Nat → Int64} {p q : Int32} {Q : Option Value → am_H → Prop}   (hb : ¬ g_m_as S p q) (hQ : Q (some (.int (eg_m_as S p q))) (am_hh X S L)) : am_mt (d + 4) 222 [.ref 285, .int p, .int q] (am_hh X S L) Q := by
  refine ax_in (ls := [some (.ref 285), some (.int p), some (.int q)]) rfl ?_
  refine ax_s (pc' := 1) (st' := [.ref 285]) rfl rfl rfl rfl ?_
  refine ax_s (pc' := 2) (st' := [.int p, .ref 285]) rfl rfl rfl rfl ?_
  refine ax_call (vs := [.ref 285, .int p]) (rr := []) rfl rfl rfl ?_
  refine mt_isParty  ?_
  show am_ex (d + 4) 222 5 [some (.ref 285), some (.int p), some (.int q)] [.int (bI (decide (¬ p < 0 ∧ ¬ (S 285 7) - 1 < p)))] (am_hh X S L) _
  refine ax_pF rfl (fun c1 => ?_) (fun c1 => ?_)
  · refine ax_s (pc' := 19) (st' := [.int (-1000001)]) rfl rfl rfl rfl ?_
    refine ax_r rfl rfl rfl ?_
    unfold eg_m_as at hQ
    rw [if_neg c1] at hQ
    exact hQ
  · refine ax_s (pc' := 9) (st' := [.int q]) rfl rfl rfl rfl ?_
    refine ax_s (pc' := 10) (st' := [.int 0, .int q]) rfl rfl rfl rfl ?_
    refine ax_s (pc' := 11) (st' := [.int 5, .int 0, .int q]) rfl rfl rfl rfl ?_
    refine ax_call (vs := [.int q, .int 0, .int 5]) (rr := []) rfl rfl rfl ?_
    refine mt_in ?_
    show am_ex (d + 4) 222 14 [some (.ref 285), some (.int p), some (.int q)] [.int (bI (decide (¬ q < 0 ∧ ¬ 5 < q)))] (am_hh X S L) _
    refine ax_pT rfl (fun c2 => ?_) (fun c2 => ?_)
    · exact absurd ⟨c1, c2⟩ hb
    · refine ax_s (pc' := 19) (st' := [.int (-1000001)]) rfl rfl rfl rfl ?_
      refine ax_r rfl rfl rfl ?_
      unfold eg_m_as at hQ
      rw [if_pos c1, if_neg c2] at hQ
      exact hQ
