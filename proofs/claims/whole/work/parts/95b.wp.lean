theorem wk_ask_1_0 {d : Nat} {X : Nat × (Nat → Int32)} {S : Nat → Nat → Int32} {L : Nat → Int64} {j : Nat} {Q : Option Value → am_H → Prop} (hk : S 22 j = 1) (hj : j < 6)  (x1 : ¬ (nI j) < 0 ∧ ¬ (S 20 4) ≤ (nI j) → j < 6) (k1 : ¬ (¬ (nI j) < 0 ∧ ¬ (S 20 4) ≤ (nI j)) → Q (some (.int (-1000001))) (am_hh X S L)) (k2 : ¬ (nI j) < 0 ∧ ¬ (S 20 4) ≤ (nI j) → Q (some (.int ((S 23 j) + ((nI j) + (S 27 j))))) (am_hh X (am_u (am_u (am_u (am_u (am_u (am_u (am_u (am_u (am_u S 283 2 0) 284 0 11) 283 2 1) 284 1 10) 283 2 2) 284 2 21) 283 2 3) 284 3 20) 283 2 4) L)) : am_mt (d + 30) 136 [.ref 5, .int (nI j), .int 0] (am_hh X S L) Q := by
  refine ax_in (ls := [some (.ref 5), some (.int (nI j)), some (.int 0)]) rfl ?_
  refine ax_s (pc' := 1) (st' := [.ref 5]) rfl rfl rfl rfl ?_
  refine ax_get rfl (hh_5 _ _ _) rfl rfl rfl ?_
  show am_ex (d + 30) 136 4 [some (.ref 5), some (.int (nI j)), some (.int 0)] [.ref 20] (am_hh X S L) _
  refine ax_s (pc' := 5) (st' := [.int (nI j), .ref 20]) rfl rfl rfl rfl ?_
  refine ax_call (vs := [.ref 20, .int (nI j)]) (rr := []) rfl rfl rfl ?_
  refine kw (am_hh_sub isW20 X S L) (am_hh_sub isW20 X S L).symm (fun _ => ct_hasParty (am_isW_k isW20 X S L)) ?_
  show am_ex (d + 30) 136 8 [some (.ref 5), some (.int (nI j)), some (.int 0)] [.int (bI (decide (¬ (nI j) < 0 ∧ ¬ (S 20 4) ≤ (nI j))))] (am_hh X S L) _
  refine ax_pF rfl (fun c1 => ?_) (fun c1 => ?_)
  · refine ax_s (pc' := 22) (st' := [.int (-1000001)]) rfl rfl rfl rfl ?_
    refine ax_r rfl rfl rfl ?_
    exact k1 c1
  · refine ax_s (pc' := 12) (st' := [.int 0]) rfl rfl rfl rfl ?_
    refine ax_s (pc' := 13) (st' := [.int 0, .int 0]) rfl rfl rfl rfl ?_
    refine ax_s (pc' := 14) (st' := [.int 1, .int 0, .int 0]) rfl rfl rfl rfl ?_
    refine ax_call (vs := [.int 0, .int 0, .int 1]) (rr := []) rfl rfl rfl ?_
    refine ct_isOutside ?_
    show am_ex (d + 30) 136 17 [some (.ref 5), some (.int (nI j)), some (.int 0)] [.int 0] (am_hh X S L) _
    refine ax_if_eq rfl (fun c2 => ?_) (fun c2 => False.elim (by revert c2; decide))
    refine ax_s (pc' := 24) (st' := [.ref 5]) rfl rfl rfl rfl ?_
    refine ax_get rfl (hh_5 _ _ _) rfl rfl rfl ?_
    show am_ex (d + 30) 136 27 [some (.ref 5), some (.int (nI j)), some (.int 0)] [.ref 283] (am_hh X S L) _
    refine ax_s (pc' := 28) (st' := [.int (nI j), .ref 283]) rfl rfl rfl rfl ?_
    refine ax_s (pc' := 29) (st' := [.int 0, .int (nI j), .ref 283]) rfl rfl rfl rfl ?_
    refine ax_call (vs := [.ref 283, .int (nI j), .int 0]) (rr := []) rfl rfl rfl ?_
    refine ax_in (ls := [some (.ref 283), some (.int (nI j)), some (.int 0)]) rfl ?_
    refine ax_s (pc' := 1) (st' := [.ref 283]) rfl rfl rfl rfl ?_
    refine ax_s (pc' := 2) (st' := [.int 0, .ref 283]) rfl rfl rfl rfl ?_
    refine ax_put rfl (hh_283 _ _ _) rfl rfl (show 2 + 1 ≤ _ from Nat.le_of_ble_eq_true rfl) rfl (am_hh_set _ _ _ 283 2 _ rfl) ?_
    refine ax_s (pc' := 6) (st' := [.ref 283]) rfl rfl rfl rfl ?_
    refine ax_s (pc' := 7) (st' := [.int (nI j), .ref 283]) rfl rfl rfl rfl ?_
    refine ax_s (pc' := 8) (st' := [.int 0, .int (nI j), .ref 283]) rfl rfl rfl rfl ?_
    refine ax_s (pc' := 9) (st' := [.int 0, .int 0, .int (nI j), .ref 283]) rfl rfl rfl rfl ?_
    refine ax_call (vs := [.ref 283, .int (nI j), .int 0, .int 0]) (rr := []) rfl rfl rfl ?_
    refine ax_in (ls := [some (.ref 283), some (.int (nI j)), some (.int 0), some (.int 0)]) rfl ?_
    refine ax_s (pc' := 1) (st' := [.ref 283]) rfl rfl rfl rfl ?_
    refine ax_s (pc' := 2) (st' := [.ref 283, .ref 283]) rfl rfl rfl rfl ?_
    refine ax_get rfl (hh_283 _ _ _) rfl rfl rfl ?_
    show am_ex (d + 28) 137 5 [some (.ref 283), some (.int (nI j)), some (.int 0), some (.int 0)] [.ref 20, .ref 283] (am_hh X (am_u S 283 2 0) L) _
    refine ax_get rfl (hh_20 _ _ _) rfl rfl rfl ?_
    show am_ex (d + 28) 137 8 [some (.ref 283), some (.int (nI j)), some (.int 0), some (.int 0)] [.ref 22, .ref 283] (am_hh X (am_u S 283 2 0) L) _
    refine ax_s (pc' := 9) (st' := [.int (nI j), .ref 22, .ref 283]) rfl rfl rfl rfl ?_
    refine ax_ald (j := j) (v := 1) rfl (hh_22 _ _ _) rfl rfl (x1 c1) (by decide) hk ?_
    refine ax_s (pc' := 11) (st' := [.int 0, .int 1, .ref 283]) rfl rfl rfl rfl ?_
    refine ax_if_ne rfl (fun c3 => False.elim (by revert c3; decide)) (fun c3 => ?_)
    refine ax_s (pc' := 17) (st' := [.ref 3, .int 1, .ref 283]) rfl rfl rfl rfl ?_
    refine ax_s (pc' := 23) (st' := [.ref 3, .int 1, .ref 283]) rfl rfl rfl rfl ?_
    refine ax_call (vs := [.int 1, .ref 3]) (rr := [.ref 283]) rfl rfl rfl ?_
    refine ax_in (ls := [some (.int 1), some (.ref 3), none, none]) rfl ?_
    refine ax_s (pc' := 1) (st' := [.int 1]) rfl rfl rfl rfl ?_
    refine ax_s (pc' := 2) (ls' := [some (.int 1), some (.ref 3), some (.int 1), none]) (st' := []) rfl rfl rfl rfl ?_
    refine ax_s (pc' := 3) (st' := [.int 0]) rfl rfl rfl rfl ?_
    refine ax_s (pc' := 4) (ls' := [some (.int 1), some (.ref 3), some (.int 1), some (.int 0)]) (st' := []) rfl rfl rfl rfl ?_
    refine ax_s (pc' := 5) (st' := [.int 0]) rfl rfl rfl rfl ?_
    refine ax_s (pc' := 6) (st' := [.int 5, .int 0]) rfl rfl rfl rfl ?_
    refine ax_cmp_gt rfl (fun c4 => False.elim (by revert c4; decide)) (fun c4 => ?_)
    refine ax_s (pc' := 10) (st' := [.int 1]) rfl rfl rfl rfl ?_
    refine ax_call (vs := [.int 1]) (rr := []) rfl rfl rfl ?_
    refine ax_in (ls := [some (.int 1)]) rfl ?_
    refine ax_s (pc' := 1) (st' := [.int 1]) rfl rfl rfl rfl ?_
    refine ax_if_lt rfl (fun c5 => False.elim (by revert c5; decide)) (fun c5 => ?_)
    refine ax_s (pc' := 5) (st' := [.int 1]) rfl rfl rfl rfl ?_
    refine ax_s (pc' := 6) (st' := [.int 5, .int 1]) rfl rfl rfl rfl ?_
    refine ax_cmp_gt rfl (fun c6 => False.elim (by revert c6; decide)) (fun c6 => ?_)
    refine ax_s (pc' := 10) (st' := [.int 1]) rfl rfl rfl rfl ?_
    refine ax_s (pc' := 14) (st' := [.int 1]) rfl rfl rfl rfl ?_
    refine ax_rb (b := true) rfl rfl ?_
    show am_ex (d + 27) 138 13 [some (.int 1), some (.ref 3), some (.int 1), some (.int 0)] [.int 1] (am_hh X (am_u S 283 2 0) L) _
    refine ax_if_eq rfl (fun c7 => False.elim (by revert c7; decide)) (fun c7 => ?_)
    refine ax_s (pc' := 17) (st' := [.ref 3]) rfl rfl rfl rfl ?_
    refine ax_s (pc' := 18) (st' := [.int 1, .ref 3]) rfl rfl rfl rfl ?_
    refine ax_ald (j := 1) (v := 11) rfl (hh_s3 _ _ _) rfl rfl (by decide) (by decide) rfl ?_
    refine ax_s (pc' := 21) (st' := [.int (-1000000), .int 11]) rfl rfl rfl rfl ?_
    refine ax_cmp_eq rfl (fun c8 => False.elim (by revert c8; decide)) (fun c8 => ?_)
    refine ax_s (pc' := 25) (st' := [.ref 3]) rfl rfl rfl rfl ?_
    refine ax_s (pc' := 26) (st' := [.int 1, .ref 3]) rfl rfl rfl rfl ?_
    refine ax_ald (j := 1) (v := 11) rfl (hh_s3 _ _ _) rfl rfl (by decide) (by decide) rfl ?_
    refine ax_r rfl rfl rfl ?_
    show am_ex (d + 28) 137 26 [some (.ref 283), some (.int (nI j)), some (.int 0), some (.int 0)] [.int 11, .ref 283] (am_hh X (am_u S 283 2 0) L) _
    refine ax_s (pc' := 27) (st' := [.int (nI j), .int 11, .ref 283]) rfl rfl rfl rfl ?_
    refine ax_s (pc' := 28) (st' := [.int 0, .int (nI j), .int 11, .ref 283]) rfl rfl rfl rfl ?_
    refine ax_call (vs := [.ref 283, .int 11, .int (nI j), .int 0]) (rr := []) rfl rfl rfl ?_
    refine ax_in (ls := [some (.ref 283), some (.int 11), some (.int (nI j)), some (.int 0), none]) rfl ?_
    refine ax_s (pc' := 1) (st' := [.int 0]) rfl rfl rfl rfl ?_
    refine ax_s (pc' := 3) (st' := [.int 16, .int 0]) rfl rfl rfl rfl ?_
    refine ax_cmp_le rfl (fun c9 => ?_) (fun c9 => False.elim (by revert c9; decide))
    refine ax_s (pc' := 10) (st' := [.ref 283]) rfl rfl rfl rfl ?_
    refine ax_s (pc' := 11) (st' := [.int 11, .ref 283]) rfl rfl rfl rfl ?_
    refine ax_call (vs := [.ref 283, .int 11]) (rr := []) rfl rfl rfl ?_
    refine ax_in (ls := [some (.ref 283), some (.int 11)]) rfl ?_
    refine ax_s (pc' := 1) (st' := [.ref 283]) rfl rfl rfl rfl ?_
    refine ax_get rfl (hh_283 _ _ _) rfl rfl rfl ?_
    show am_ex (d + 26) 140 4 [some (.ref 283), some (.int 11)] [.int 0] (am_hh X (am_u S 283 2 0) L) _
    refine ax_if_lt rfl (fun c10 => False.elim (by revert c10; decide)) (fun c10 => ?_)
    refine ax_s (pc' := 8) (st' := [.ref 283]) rfl rfl rfl rfl ?_
    refine ax_get rfl (hh_283 _ _ _) rfl rfl rfl ?_
    show am_ex (d + 26) 140 11 [some (.ref 283), some (.int 11)] [.int 0] (am_hh X (am_u S 283 2 0) L) _
    refine ax_s (pc' := 13) (st' := [.int 16, .int 0]) rfl rfl rfl rfl ?_
    refine ax_cmp_ge rfl (fun c11 => False.elim (by revert c11; decide)) (fun c11 => ?_)
    refine ax_s (pc' := 17) (st' := [.ref 283]) rfl rfl rfl rfl ?_
    refine ax_get rfl (hh_283 _ _ _) rfl rfl rfl ?_
    show am_ex (d + 26) 140 20 [some (.ref 283), some (.int 11)] [.ref 284] (am_hh X (am_u S 283 2 0) L) _
    refine ax_s (pc' := 21) (st' := [.ref 283, .ref 284]) rfl rfl rfl rfl ?_
    refine ax_get rfl (hh_283 _ _ _) rfl rfl rfl ?_
    show am_ex (d + 26) 140 24 [some (.ref 283), some (.int 11)] [.int 0, .ref 284] (am_hh X (am_u S 283 2 0) L) _
    refine ax_s (pc' := 25) (st' := [.int 11, .int 0, .ref 284]) rfl rfl rfl rfl ?_
    refine ax_ast (j := 0) rfl (hh_284 _ _ _) rfl rfl (by decide) (by decide) (am_hh_set _ _ _ 284 0 _ rfl) ?_
    refine ax_s (pc' := 27) (st' := [.ref 283]) rfl rfl rfl rfl ?_
    refine ax_s (pc' := 28) (st' := [.ref 283, .ref 283]) rfl rfl rfl rfl ?_
    refine ax_get rfl (hh_283 _ _ _) rfl rfl rfl ?_
    show am_ex (d + 26) 140 31 [some (.ref 283), some (.int 11)] [.int 0, .ref 283] (am_hh X (am_u (am_u S 283 2 0) 284 0 11) L) _
    refine ax_s (pc' := 32) (st' := [.int 1, .int 0, .ref 283]) rfl rfl rfl rfl ?_
    refine ax_s (pc' := 33) (st' := [.int 1, .ref 283]) rfl rfl rfl rfl ?_
    refine ax_put rfl (hh_283 _ _ _) rfl rfl (show 2 + 1 ≤ _ from Nat.le_of_ble_eq_true rfl) rfl (am_hh_set _ _ _ 283 2 _ rfl) ?_
    refine ax_r rfl rfl rfl ?_
    show am_ex (d + 27) 139 14 [some (.ref 283), some (.int 11), some (.int (nI j)), some (.int 0), none] [] (am_hh X (am_u (am_u (am_u S 283 2 0) 284 0 11) 283 2 1) L) _
    refine ax_s (pc' := 15) (st' := [.int 0]) rfl rfl rfl rfl ?_
    refine ax_s (pc' := 16) (st' := [.int 1, .int 0]) rfl rfl rfl rfl ?_
    refine ax_s (pc' := 17) (st' := [.int 1]) rfl rfl rfl rfl ?_
    refine ax_s (pc' := 19) (ls' := [some (.ref 283), some (.int 11), some (.int (nI j)), some (.int 0), some (.int 1)]) (st' := []) rfl rfl rfl rfl ?_
    refine ax_s (pc' := 20) (st' := [.int 11]) rfl rfl rfl rfl ?_
    refine ax_s (pc' := 106) (ls' := [some (.ref 283), some (.int 11), some (.int (nI j)), some (.int 0), some (.int 1)]) (st' := []) (h1 := (am_hh X (am_u (am_u (am_u S 283 2 0) 284 0 11) 283 2 1) L)) rfl rfl rfl rfl ?_
    refine ax_s (pc' := 107) (st' := [.ref 283]) rfl rfl rfl rfl ?_
    refine ax_s (pc' := 109) (st' := [.int 10, .ref 283]) rfl rfl rfl rfl ?_
    refine ax_s (pc' := 110) (st' := [.int (nI j), .int 10, .ref 283]) rfl rfl rfl rfl ?_
    refine ax_s (pc' := 112) (st' := [.int 1, .int (nI j), .int 10, .ref 283]) rfl rfl rfl rfl ?_
    refine ax_call (vs := [.ref 283, .int 10, .int (nI j), .int 1]) (rr := []) rfl rfl rfl ?_
    refine ax_in (ls := [some (.ref 283), some (.int 10), some (.int (nI j)), some (.int 1), none]) rfl ?_
    refine ax_s (pc' := 1) (st' := [.int 1]) rfl rfl rfl rfl ?_
    refine ax_s (pc' := 3) (st' := [.int 16, .int 1]) rfl rfl rfl rfl ?_
    refine ax_cmp_le rfl (fun c12 => ?_) (fun c12 => False.elim (by revert c12; decide))
    refine ax_s (pc' := 10) (st' := [.ref 283]) rfl rfl rfl rfl ?_
    refine ax_s (pc' := 11) (st' := [.int 10, .ref 283]) rfl rfl rfl rfl ?_
    refine ax_call (vs := [.ref 283, .int 10]) (rr := []) rfl rfl rfl ?_
    refine ax_in (ls := [some (.ref 283), some (.int 10)]) rfl ?_
    refine ax_s (pc' := 1) (st' := [.ref 283]) rfl rfl rfl rfl ?_
    refine ax_get rfl (hh_283 _ _ _) rfl rfl rfl ?_
    show am_ex (d + 25) 140 4 [some (.ref 283), some (.int 10)] [.int 1] (am_hh X (am_u (am_u (am_u S 283 2 0) 284 0 11) 283 2 1) L) _
    refine ax_if_lt rfl (fun c13 => False.elim (by revert c13; decide)) (fun c13 => ?_)
    refine ax_s (pc' := 8) (st' := [.ref 283]) rfl rfl rfl rfl ?_
    refine ax_get rfl (hh_283 _ _ _) rfl rfl rfl ?_
    show am_ex (d + 25) 140 11 [some (.ref 283), some (.int 10)] [.int 1] (am_hh X (am_u (am_u (am_u S 283 2 0) 284 0 11) 283 2 1) L) _
    refine ax_s (pc' := 13) (st' := [.int 16, .int 1]) rfl rfl rfl rfl ?_
    refine ax_cmp_ge rfl (fun c14 => False.elim (by revert c14; decide)) (fun c14 => ?_)
    refine ax_s (pc' := 17) (st' := [.ref 283]) rfl rfl rfl rfl ?_
    refine ax_get rfl (hh_283 _ _ _) rfl rfl rfl ?_
    show am_ex (d + 25) 140 20 [some (.ref 283), some (.int 10)] [.ref 284] (am_hh X (am_u (am_u (am_u S 283 2 0) 284 0 11) 283 2 1) L) _
    refine ax_s (pc' := 21) (st' := [.ref 283, .ref 284]) rfl rfl rfl rfl ?_
    refine ax_get rfl (hh_283 _ _ _) rfl rfl rfl ?_
    show am_ex (d + 25) 140 24 [some (.ref 283), some (.int 10)] [.int 1, .ref 284] (am_hh X (am_u (am_u (am_u S 283 2 0) 284 0 11) 283 2 1) L) _
    refine ax_s (pc' := 25) (st' := [.int 10, .int 1, .ref 284]) rfl rfl rfl rfl ?_
    refine ax_ast (j := 1) rfl (hh_284 _ _ _) rfl rfl (by decide) (by decide) (am_hh_set _ _ _ 284 1 _ rfl) ?_
    refine ax_s (pc' := 27) (st' := [.ref 283]) rfl rfl rfl rfl ?_
    refine ax_s (pc' := 28) (st' := [.ref 283, .ref 283]) rfl rfl rfl rfl ?_
    refine ax_get rfl (hh_283 _ _ _) rfl rfl rfl ?_
    show am_ex (d + 25) 140 31 [some (.ref 283), some (.int 10)] [.int 1, .ref 283] (am_hh X (am_u (am_u (am_u (am_u S 283 2 0) 284 0 11) 283 2 1) 284 1 10) L) _
    refine ax_s (pc' := 32) (st' := [.int 1, .int 1, .ref 283]) rfl rfl rfl rfl ?_
    refine ax_s (pc' := 33) (st' := [.int 2, .ref 283]) rfl rfl rfl rfl ?_
    refine ax_put rfl (hh_283 _ _ _) rfl rfl (show 2 + 1 ≤ _ from Nat.le_of_ble_eq_true rfl) rfl (am_hh_set _ _ _ 283 2 _ rfl) ?_
    refine ax_r rfl rfl rfl ?_
    show am_ex (d + 26) 139 14 [some (.ref 283), some (.int 10), some (.int (nI j)), some (.int 1), none] [] (am_hh X (am_u (am_u (am_u (am_u (am_u S 283 2 0) 284 0 11) 283 2 1) 284 1 10) 283 2 2) L) _
    refine ax_s (pc' := 15) (st' := [.int 1]) rfl rfl rfl rfl ?_
    refine ax_s (pc' := 16) (st' := [.int 1, .int 1]) rfl rfl rfl rfl ?_
    refine ax_s (pc' := 17) (st' := [.int 2]) rfl rfl rfl rfl ?_
    refine ax_s (pc' := 19) (ls' := [some (.ref 283), some (.int 10), some (.int (nI j)), some (.int 1), some (.int 2)]) (st' := []) rfl rfl rfl rfl ?_
    refine ax_s (pc' := 20) (st' := [.int 10]) rfl rfl rfl rfl ?_
    refine ax_s (pc' := 96) (ls' := [some (.ref 283), some (.int 10), some (.int (nI j)), some (.int 1), some (.int 2)]) (st' := []) (h1 := (am_hh X (am_u (am_u (am_u (am_u (am_u S 283 2 0) 284 0 11) 283 2 1) 284 1 10) 283 2 2) L)) rfl rfl rfl rfl ?_
    refine ax_s (pc' := 97) (st' := [.ref 283]) rfl rfl rfl rfl ?_
    refine ax_get rfl (hh_283 _ _ _) rfl rfl rfl ?_
    show am_ex (d + 26) 139 100 [some (.ref 283), some (.int 10), some (.int (nI j)), some (.int 1), some (.int 2)] [.ref 20] (am_hh X (am_u (am_u (am_u (am_u (am_u S 283 2 0) 284 0 11) 283 2 1) 284 1 10) 283 2 2) L) _
    refine ax_get rfl (hh_20 _ _ _) rfl rfl rfl ?_
    show am_ex (d + 26) 139 103 [some (.ref 283), some (.int 10), some (.int (nI j)), some (.int 1), some (.int 2)] [.ref 23] (am_hh X (am_u (am_u (am_u (am_u (am_u S 283 2 0) 284 0 11) 283 2 1) 284 1 10) 283 2 2) L) _
    refine ax_s (pc' := 104) (st' := [.int (nI j), .ref 23]) rfl rfl rfl rfl ?_
    refine ax_ald (j := j) (v := (S 23 j)) rfl (hh_23 _ _ _) rfl rfl (x1 c1) (by decide) rfl ?_
    refine ax_r rfl rfl rfl ?_
    show am_ex (d + 27) 139 115 [some (.ref 283), some (.int 11), some (.int (nI j)), some (.int 0), some (.int 1)] [.int (S 23 j)] (am_hh X (am_u (am_u (am_u (am_u (am_u S 283 2 0) 284 0 11) 283 2 1) 284 1 10) 283 2 2) L) _
    refine ax_s (pc' := 116) (st' := [.ref 283, .int (S 23 j)]) rfl rfl rfl rfl ?_
    refine ax_s (pc' := 117) (st' := [.int (nI j), .ref 283, .int (S 23 j)]) rfl rfl rfl rfl ?_
    refine ax_s (pc' := 118) (st' := [.int 1, .int (nI j), .ref 283, .int (S 23 j)]) rfl rfl rfl rfl ?_
    refine ax_s (pc' := 120) (st' := [.int 1, .int 1, .int (nI j), .ref 283, .int (S 23 j)]) rfl rfl rfl rfl ?_
    refine ax_call (vs := [.ref 283, .int (nI j), .int 1, .int 1]) (rr := [.int (S 23 j)]) rfl rfl rfl ?_
    refine ax_in (ls := [some (.ref 283), some (.int (nI j)), some (.int 1), some (.int 1)]) rfl ?_
    refine ax_s (pc' := 1) (st' := [.ref 283]) rfl rfl rfl rfl ?_
    refine ax_s (pc' := 2) (st' := [.ref 283, .ref 283]) rfl rfl rfl rfl ?_
    refine ax_get rfl (hh_283 _ _ _) rfl rfl rfl ?_
    show am_ex (d + 26) 137 5 [some (.ref 283), some (.int (nI j)), some (.int 1), some (.int 1)] [.ref 20, .ref 283] (am_hh X (am_u (am_u (am_u (am_u (am_u S 283 2 0) 284 0 11) 283 2 1) 284 1 10) 283 2 2) L) _
    refine ax_get rfl (hh_20 _ _ _) rfl rfl rfl ?_
    show am_ex (d + 26) 137 8 [some (.ref 283), some (.int (nI j)), some (.int 1), some (.int 1)] [.ref 22, .ref 283] (am_hh X (am_u (am_u (am_u (am_u (am_u S 283 2 0) 284 0 11) 283 2 1) 284 1 10) 283 2 2) L) _
    refine ax_s (pc' := 9) (st' := [.int (nI j), .ref 22, .ref 283]) rfl rfl rfl rfl ?_
    refine ax_ald (j := j) (v := 1) rfl (hh_22 _ _ _) rfl rfl (x1 c1) (by decide) hk ?_
    refine ax_s (pc' := 11) (st' := [.int 1, .int 1, .ref 283]) rfl rfl rfl rfl ?_
    refine ax_if_ne rfl (fun c15 => ?_) (fun c15 => False.elim (by revert c15; decide))
    refine ax_s (pc' := 23) (st' := [.ref 4, .int 1, .ref 283]) rfl rfl rfl rfl ?_
    refine ax_call (vs := [.int 1, .ref 4]) (rr := [.ref 283]) rfl rfl rfl ?_
    refine ax_in (ls := [some (.int 1), some (.ref 4), none, none]) rfl ?_
    refine ax_s (pc' := 1) (st' := [.int 1]) rfl rfl rfl rfl ?_
    refine ax_s (pc' := 2) (ls' := [some (.int 1), some (.ref 4), some (.int 1), none]) (st' := []) rfl rfl rfl rfl ?_
    refine ax_s (pc' := 3) (st' := [.int 0]) rfl rfl rfl rfl ?_
    refine ax_s (pc' := 4) (ls' := [some (.int 1), some (.ref 4), some (.int 1), some (.int 0)]) (st' := []) rfl rfl rfl rfl ?_
    refine ax_s (pc' := 5) (st' := [.int 0]) rfl rfl rfl rfl ?_
    refine ax_s (pc' := 6) (st' := [.int 5, .int 0]) rfl rfl rfl rfl ?_
    refine ax_cmp_gt rfl (fun c16 => False.elim (by revert c16; decide)) (fun c16 => ?_)
    refine ax_s (pc' := 10) (st' := [.int 1]) rfl rfl rfl rfl ?_
    refine ax_call (vs := [.int 1]) (rr := []) rfl rfl rfl ?_
    refine ax_in (ls := [some (.int 1)]) rfl ?_
    refine ax_s (pc' := 1) (st' := [.int 1]) rfl rfl rfl rfl ?_
    refine ax_if_lt rfl (fun c17 => False.elim (by revert c17; decide)) (fun c17 => ?_)
    refine ax_s (pc' := 5) (st' := [.int 1]) rfl rfl rfl rfl ?_
    refine ax_s (pc' := 6) (st' := [.int 5, .int 1]) rfl rfl rfl rfl ?_
    refine ax_cmp_gt rfl (fun c18 => False.elim (by revert c18; decide)) (fun c18 => ?_)
    refine ax_s (pc' := 10) (st' := [.int 1]) rfl rfl rfl rfl ?_
    refine ax_s (pc' := 14) (st' := [.int 1]) rfl rfl rfl rfl ?_
    refine ax_rb (b := true) rfl rfl ?_
    show am_ex (d + 25) 138 13 [some (.int 1), some (.ref 4), some (.int 1), some (.int 0)] [.int 1] (am_hh X (am_u (am_u (am_u (am_u (am_u S 283 2 0) 284 0 11) 283 2 1) 284 1 10) 283 2 2) L) _
    refine ax_if_eq rfl (fun c19 => False.elim (by revert c19; decide)) (fun c19 => ?_)
    refine ax_s (pc' := 17) (st' := [.ref 4]) rfl rfl rfl rfl ?_
    refine ax_s (pc' := 18) (st' := [.int 1, .ref 4]) rfl rfl rfl rfl ?_
    refine ax_ald (j := 1) (v := 21) rfl (hh_s4 _ _ _) rfl rfl (by decide) (by decide) rfl ?_
    refine ax_s (pc' := 21) (st' := [.int (-1000000), .int 21]) rfl rfl rfl rfl ?_
    refine ax_cmp_eq rfl (fun c20 => False.elim (by revert c20; decide)) (fun c20 => ?_)
    refine ax_s (pc' := 25) (st' := [.ref 4]) rfl rfl rfl rfl ?_
    refine ax_s (pc' := 26) (st' := [.int 1, .ref 4]) rfl rfl rfl rfl ?_
    refine ax_ald (j := 1) (v := 21) rfl (hh_s4 _ _ _) rfl rfl (by decide) (by decide) rfl ?_
    refine ax_r rfl rfl rfl ?_
    show am_ex (d + 26) 137 26 [some (.ref 283), some (.int (nI j)), some (.int 1), some (.int 1)] [.int 21, .ref 283] (am_hh X (am_u (am_u (am_u (am_u (am_u S 283 2 0) 284 0 11) 283 2 1) 284 1 10) 283 2 2) L) _
    refine ax_s (pc' := 27) (st' := [.int (nI j), .int 21, .ref 283]) rfl rfl rfl rfl ?_
    refine ax_s (pc' := 28) (st' := [.int 1, .int (nI j), .int 21, .ref 283]) rfl rfl rfl rfl ?_
    refine ax_call (vs := [.ref 283, .int 21, .int (nI j), .int 1]) (rr := []) rfl rfl rfl ?_
    refine ax_in (ls := [some (.ref 283), some (.int 21), some (.int (nI j)), some (.int 1), none]) rfl ?_
    refine ax_s (pc' := 1) (st' := [.int 1]) rfl rfl rfl rfl ?_
    refine ax_s (pc' := 3) (st' := [.int 16, .int 1]) rfl rfl rfl rfl ?_
    refine ax_cmp_le rfl (fun c21 => ?_) (fun c21 => False.elim (by revert c21; decide))
    refine ax_s (pc' := 10) (st' := [.ref 283]) rfl rfl rfl rfl ?_
    refine ax_s (pc' := 11) (st' := [.int 21, .ref 283]) rfl rfl rfl rfl ?_
    refine ax_call (vs := [.ref 283, .int 21]) (rr := []) rfl rfl rfl ?_
    refine ax_in (ls := [some (.ref 283), some (.int 21)]) rfl ?_
    refine ax_s (pc' := 1) (st' := [.ref 283]) rfl rfl rfl rfl ?_
    refine ax_get rfl (hh_283 _ _ _) rfl rfl rfl ?_
    show am_ex (d + 24) 140 4 [some (.ref 283), some (.int 21)] [.int 2] (am_hh X (am_u (am_u (am_u (am_u (am_u S 283 2 0) 284 0 11) 283 2 1) 284 1 10) 283 2 2) L) _
    refine ax_if_lt rfl (fun c22 => False.elim (by revert c22; decide)) (fun c22 => ?_)
    refine ax_s (pc' := 8) (st' := [.ref 283]) rfl rfl rfl rfl ?_
    refine ax_get rfl (hh_283 _ _ _) rfl rfl rfl ?_
    show am_ex (d + 24) 140 11 [some (.ref 283), some (.int 21)] [.int 2] (am_hh X (am_u (am_u (am_u (am_u (am_u S 283 2 0) 284 0 11) 283 2 1) 284 1 10) 283 2 2) L) _
    refine ax_s (pc' := 13) (st' := [.int 16, .int 2]) rfl rfl rfl rfl ?_
    refine ax_cmp_ge rfl (fun c23 => False.elim (by revert c23; decide)) (fun c23 => ?_)
    refine ax_s (pc' := 17) (st' := [.ref 283]) rfl rfl rfl rfl ?_
    refine ax_get rfl (hh_283 _ _ _) rfl rfl rfl ?_
    show am_ex (d + 24) 140 20 [some (.ref 283), some (.int 21)] [.ref 284] (am_hh X (am_u (am_u (am_u (am_u (am_u S 283 2 0) 284 0 11) 283 2 1) 284 1 10) 283 2 2) L) _
    refine ax_s (pc' := 21) (st' := [.ref 283, .ref 284]) rfl rfl rfl rfl ?_
    refine ax_get rfl (hh_283 _ _ _) rfl rfl rfl ?_
    show am_ex (d + 24) 140 24 [some (.ref 283), some (.int 21)] [.int 2, .ref 284] (am_hh X (am_u (am_u (am_u (am_u (am_u S 283 2 0) 284 0 11) 283 2 1) 284 1 10) 283 2 2) L) _
    refine ax_s (pc' := 25) (st' := [.int 21, .int 2, .ref 284]) rfl rfl rfl rfl ?_
    refine ax_ast (j := 2) rfl (hh_284 _ _ _) rfl rfl (by decide) (by decide) (am_hh_set _ _ _ 284 2 _ rfl) ?_
    refine ax_s (pc' := 27) (st' := [.ref 283]) rfl rfl rfl rfl ?_
    refine ax_s (pc' := 28) (st' := [.ref 283, .ref 283]) rfl rfl rfl rfl ?_
    refine ax_get rfl (hh_283 _ _ _) rfl rfl rfl ?_
    show am_ex (d + 24) 140 31 [some (.ref 283), some (.int 21)] [.int 2, .ref 283] (am_hh X (am_u (am_u (am_u (am_u (am_u (am_u S 283 2 0) 284 0 11) 283 2 1) 284 1 10) 283 2 2) 284 2 21) L) _
    refine ax_s (pc' := 32) (st' := [.int 1, .int 2, .ref 283]) rfl rfl rfl rfl ?_
    refine ax_s (pc' := 33) (st' := [.int 3, .ref 283]) rfl rfl rfl rfl ?_
    refine ax_put rfl (hh_283 _ _ _) rfl rfl (show 2 + 1 ≤ _ from Nat.le_of_ble_eq_true rfl) rfl (am_hh_set _ _ _ 283 2 _ rfl) ?_
    refine ax_r rfl rfl rfl ?_
    show am_ex (d + 25) 139 14 [some (.ref 283), some (.int 21), some (.int (nI j)), some (.int 1), none] [] (am_hh X (am_u (am_u (am_u (am_u (am_u (am_u (am_u S 283 2 0) 284 0 11) 283 2 1) 284 1 10) 283 2 2) 284 2 21) 283 2 3) L) _
    refine ax_s (pc' := 15) (st' := [.int 1]) rfl rfl rfl rfl ?_
    refine ax_s (pc' := 16) (st' := [.int 1, .int 1]) rfl rfl rfl rfl ?_
    refine ax_s (pc' := 17) (st' := [.int 2]) rfl rfl rfl rfl ?_
    refine ax_s (pc' := 19) (ls' := [some (.ref 283), some (.int 21), some (.int (nI j)), some (.int 1), some (.int 2)]) (st' := []) rfl rfl rfl rfl ?_
    refine ax_s (pc' := 20) (st' := [.int 21]) rfl rfl rfl rfl ?_
    refine ax_s (pc' := 164) (ls' := [some (.ref 283), some (.int 21), some (.int (nI j)), some (.int 1), some (.int 2)]) (st' := []) (h1 := (am_hh X (am_u (am_u (am_u (am_u (am_u (am_u (am_u S 283 2 0) 284 0 11) 283 2 1) 284 1 10) 283 2 2) 284 2 21) 283 2 3) L)) rfl rfl rfl rfl ?_
    refine ax_s (pc' := 165) (st' := [.ref 283]) rfl rfl rfl rfl ?_
    refine ax_s (pc' := 167) (st' := [.int 20, .ref 283]) rfl rfl rfl rfl ?_
    refine ax_s (pc' := 168) (st' := [.int (nI j), .int 20, .ref 283]) rfl rfl rfl rfl ?_
    refine ax_s (pc' := 170) (st' := [.int 2, .int (nI j), .int 20, .ref 283]) rfl rfl rfl rfl ?_
    refine ax_call (vs := [.ref 283, .int 20, .int (nI j), .int 2]) (rr := []) rfl rfl rfl ?_
    refine ax_in (ls := [some (.ref 283), some (.int 20), some (.int (nI j)), some (.int 2), none]) rfl ?_
    refine ax_s (pc' := 1) (st' := [.int 2]) rfl rfl rfl rfl ?_
    refine ax_s (pc' := 3) (st' := [.int 16, .int 2]) rfl rfl rfl rfl ?_
    refine ax_cmp_le rfl (fun c24 => ?_) (fun c24 => False.elim (by revert c24; decide))
    refine ax_s (pc' := 10) (st' := [.ref 283]) rfl rfl rfl rfl ?_
    refine ax_s (pc' := 11) (st' := [.int 20, .ref 283]) rfl rfl rfl rfl ?_
    refine ax_call (vs := [.ref 283, .int 20]) (rr := []) rfl rfl rfl ?_
    refine ax_in (ls := [some (.ref 283), some (.int 20)]) rfl ?_
    refine ax_s (pc' := 1) (st' := [.ref 283]) rfl rfl rfl rfl ?_
    refine ax_get rfl (hh_283 _ _ _) rfl rfl rfl ?_
    show am_ex (d + 23) 140 4 [some (.ref 283), some (.int 20)] [.int 3] (am_hh X (am_u (am_u (am_u (am_u (am_u (am_u (am_u S 283 2 0) 284 0 11) 283 2 1) 284 1 10) 283 2 2) 284 2 21) 283 2 3) L) _
    refine ax_if_lt rfl (fun c25 => False.elim (by revert c25; decide)) (fun c25 => ?_)
    refine ax_s (pc' := 8) (st' := [.ref 283]) rfl rfl rfl rfl ?_
    refine ax_get rfl (hh_283 _ _ _) rfl rfl rfl ?_
    show am_ex (d + 23) 140 11 [some (.ref 283), some (.int 20)] [.int 3] (am_hh X (am_u (am_u (am_u (am_u (am_u (am_u (am_u S 283 2 0) 284 0 11) 283 2 1) 284 1 10) 283 2 2) 284 2 21) 283 2 3) L) _
    refine ax_s (pc' := 13) (st' := [.int 16, .int 3]) rfl rfl rfl rfl ?_
    refine ax_cmp_ge rfl (fun c26 => False.elim (by revert c26; decide)) (fun c26 => ?_)
    refine ax_s (pc' := 17) (st' := [.ref 283]) rfl rfl rfl rfl ?_
    refine ax_get rfl (hh_283 _ _ _) rfl rfl rfl ?_
    show am_ex (d + 23) 140 20 [some (.ref 283), some (.int 20)] [.ref 284] (am_hh X (am_u (am_u (am_u (am_u (am_u (am_u (am_u S 283 2 0) 284 0 11) 283 2 1) 284 1 10) 283 2 2) 284 2 21) 283 2 3) L) _
    refine ax_s (pc' := 21) (st' := [.ref 283, .ref 284]) rfl rfl rfl rfl ?_
    refine ax_get rfl (hh_283 _ _ _) rfl rfl rfl ?_
    show am_ex (d + 23) 140 24 [some (.ref 283), some (.int 20)] [.int 3, .ref 284] (am_hh X (am_u (am_u (am_u (am_u (am_u (am_u (am_u S 283 2 0) 284 0 11) 283 2 1) 284 1 10) 283 2 2) 284 2 21) 283 2 3) L) _
    refine ax_s (pc' := 25) (st' := [.int 20, .int 3, .ref 284]) rfl rfl rfl rfl ?_
    refine ax_ast (j := 3) rfl (hh_284 _ _ _) rfl rfl (by decide) (by decide) (am_hh_set _ _ _ 284 3 _ rfl) ?_
    refine ax_s (pc' := 27) (st' := [.ref 283]) rfl rfl rfl rfl ?_
    refine ax_s (pc' := 28) (st' := [.ref 283, .ref 283]) rfl rfl rfl rfl ?_
    refine ax_get rfl (hh_283 _ _ _) rfl rfl rfl ?_
    show am_ex (d + 23) 140 31 [some (.ref 283), some (.int 20)] [.int 3, .ref 283] (am_hh X (am_u (am_u (am_u (am_u (am_u (am_u (am_u (am_u S 283 2 0) 284 0 11) 283 2 1) 284 1 10) 283 2 2) 284 2 21) 283 2 3) 284 3 20) L) _
    refine ax_s (pc' := 32) (st' := [.int 1, .int 3, .ref 283]) rfl rfl rfl rfl ?_
    refine ax_s (pc' := 33) (st' := [.int 4, .ref 283]) rfl rfl rfl rfl ?_
    refine ax_put rfl (hh_283 _ _ _) rfl rfl (show 2 + 1 ≤ _ from Nat.le_of_ble_eq_true rfl) rfl (am_hh_set _ _ _ 283 2 _ rfl) ?_
    refine ax_r rfl rfl rfl ?_
    show am_ex (d + 24) 139 14 [some (.ref 283), some (.int 20), some (.int (nI j)), some (.int 2), none] [] (am_hh X (am_u (am_u (am_u (am_u (am_u (am_u (am_u (am_u (am_u S 283 2 0) 284 0 11) 283 2 1) 284 1 10) 283 2 2) 284 2 21) 283 2 3) 284 3 20) 283 2 4) L) _
    refine ax_s (pc' := 15) (st' := [.int 2]) rfl rfl rfl rfl ?_
    refine ax_s (pc' := 16) (st' := [.int 1, .int 2]) rfl rfl rfl rfl ?_
    refine ax_s (pc' := 17) (st' := [.int 3]) rfl rfl rfl rfl ?_
    refine ax_s (pc' := 19) (ls' := [some (.ref 283), some (.int 20), some (.int (nI j)), some (.int 2), some (.int 3)]) (st' := []) rfl rfl rfl rfl ?_
    refine ax_s (pc' := 20) (st' := [.int 20]) rfl rfl rfl rfl ?_
    refine ax_s (pc' := 162) (ls' := [some (.ref 283), some (.int 20), some (.int (nI j)), some (.int 2), some (.int 3)]) (st' := []) (h1 := (am_hh X (am_u (am_u (am_u (am_u (am_u (am_u (am_u (am_u (am_u S 283 2 0) 284 0 11) 283 2 1) 284 1 10) 283 2 2) 284 2 21) 283 2 3) 284 3 20) 283 2 4) L)) rfl rfl rfl rfl ?_
    refine ax_s (pc' := 163) (st' := [.int (nI j)]) rfl rfl rfl rfl ?_
    refine ax_r rfl rfl rfl ?_
    show am_ex (d + 25) 139 173 [some (.ref 283), some (.int 21), some (.int (nI j)), some (.int 1), some (.int 2)] [.int (nI j)] (am_hh X (am_u (am_u (am_u (am_u (am_u (am_u (am_u (am_u (am_u S 283 2 0) 284 0 11) 283 2 1) 284 1 10) 283 2 2) 284 2 21) 283 2 3) 284 3 20) 283 2 4) L) _
    refine ax_s (pc' := 174) (st' := [.ref 283, .int (nI j)]) rfl rfl rfl rfl ?_
    refine ax_get rfl (hh_283 _ _ _) rfl rfl rfl ?_
    show am_ex (d + 25) 139 177 [some (.ref 283), some (.int 21), some (.int (nI j)), some (.int 1), some (.int 2)] [.ref 20, .int (nI j)] (am_hh X (am_u (am_u (am_u (am_u (am_u (am_u (am_u (am_u (am_u S 283 2 0) 284 0 11) 283 2 1) 284 1 10) 283 2 2) 284 2 21) 283 2 3) 284 3 20) 283 2 4) L) _
    refine ax_get rfl (hh_20 _ _ _) rfl rfl rfl ?_
    show am_ex (d + 25) 139 180 [some (.ref 283), some (.int 21), some (.int (nI j)), some (.int 1), some (.int 2)] [.ref 27, .int (nI j)] (am_hh X (am_u (am_u (am_u (am_u (am_u (am_u (am_u (am_u (am_u S 283 2 0) 284 0 11) 283 2 1) 284 1 10) 283 2 2) 284 2 21) 283 2 3) 284 3 20) 283 2 4) L) _
    refine ax_s (pc' := 181) (st' := [.int (nI j), .ref 27, .int (nI j)]) rfl rfl rfl rfl ?_
    refine ax_ald (j := j) (v := (S 27 j)) rfl (hh_27 _ _ _) rfl rfl (x1 c1) (by decide) rfl ?_
    refine ax_s (pc' := 183) (st' := [.int ((nI j) + (S 27 j))]) rfl rfl rfl rfl ?_
    refine ax_r rfl rfl rfl ?_
    show am_ex (d + 26) 137 31 [some (.ref 283), some (.int (nI j)), some (.int 1), some (.int 1)] [.int ((nI j) + (S 27 j))] (am_hh X (am_u (am_u (am_u (am_u (am_u (am_u (am_u (am_u (am_u S 283 2 0) 284 0 11) 283 2 1) 284 1 10) 283 2 2) 284 2 21) 283 2 3) 284 3 20) 283 2 4) L) _
    refine ax_r rfl rfl rfl ?_
    show am_ex (d + 27) 139 123 [some (.ref 283), some (.int 11), some (.int (nI j)), some (.int 0), some (.int 1)] [.int ((nI j) + (S 27 j)), .int (S 23 j)] (am_hh X (am_u (am_u (am_u (am_u (am_u (am_u (am_u (am_u (am_u S 283 2 0) 284 0 11) 283 2 1) 284 1 10) 283 2 2) 284 2 21) 283 2 3) 284 3 20) 283 2 4) L) _
    refine ax_s (pc' := 124) (st' := [.int ((S 23 j) + ((nI j) + (S 27 j)))]) rfl rfl rfl rfl ?_
    refine ax_r rfl rfl rfl ?_
    show am_ex (d + 28) 137 31 [some (.ref 283), some (.int (nI j)), some (.int 0), some (.int 0)] [.int ((S 23 j) + ((nI j) + (S 27 j)))] (am_hh X (am_u (am_u (am_u (am_u (am_u (am_u (am_u (am_u (am_u S 283 2 0) 284 0 11) 283 2 1) 284 1 10) 283 2 2) 284 2 21) 283 2 3) 284 3 20) 283 2 4) L) _
    refine ax_r rfl rfl rfl ?_
    show am_ex (d + 29) 238 12 [some (.ref 283), some (.int (nI j)), some (.int 0)] [.int ((S 23 j) + ((nI j) + (S 27 j)))] (am_hh X (am_u (am_u (am_u (am_u (am_u (am_u (am_u (am_u (am_u S 283 2 0) 284 0 11) 283 2 1) 284 1 10) 283 2 2) 284 2 21) 283 2 3) 284 3 20) 283 2 4) L) _
    refine ax_r rfl rfl rfl ?_
    show am_ex (d + 30) 136 32 [some (.ref 5), some (.int (nI j)), some (.int 0)] [.int ((S 23 j) + ((nI j) + (S 27 j)))] (am_hh X (am_u (am_u (am_u (am_u (am_u (am_u (am_u (am_u (am_u S 283 2 0) 284 0 11) 283 2 1) 284 1 10) 283 2 2) 284 2 21) 283 2 3) 284 3 20) 283 2 4) L) _
    refine ax_r rfl rfl rfl ?_
    exact k2 c1
theorem wm_ask_1_0 {d : Nat} {X : Nat × (Nat → Int32)} {S : Nat → Nat → Int32} {L : Nat → Int64} {j : Nat} {Q : Option Value → am_H → Prop} (hk : S 290 j = 1) (hj : j < 6)  (x1 : ¬ (nI j) < 0 ∧ ¬ (S 285 7) - 1 < (nI j) → j < 6) (x2 : ¬ (nI j) < 0 ∧ ¬ (S 285 7) - 1 < (nI j) → (27 + j) < 39) (k1 : ¬ (¬ (nI j) < 0 ∧ ¬ (S 285 7) - 1 < (nI j)) → Q (some (.int (-1000001))) (am_hh X S L)) (k2 : ¬ (nI j) < 0 ∧ ¬ (S 285 7) - 1 < (nI j) → Q (some (.int ((S 291 j) + ((nI j) + (S 293 (27 + j)))))) (am_hh X (am_u (am_u (am_u (am_u (am_u (am_u (am_u (am_u (am_u S 285 20 0) 299 0 11) 285 20 1) 299 1 10) 285 20 2) 299 2 21) 285 20 3) 299 3 20) 285 20 4) L)) : am_mt (d + 10) 224 [.ref 285, .int (nI j), .int 0] (am_hh X S L) Q := by
  refine ax_in (ls := [some (.ref 285), some (.int (nI j)), some (.int 0)]) rfl ?_
  refine ax_s (pc' := 1) (st' := [.ref 285]) rfl rfl rfl rfl ?_
  refine ax_s (pc' := 2) (st' := [.int (nI j), .ref 285]) rfl rfl rfl rfl ?_
  refine ax_call (vs := [.ref 285, .int (nI j)]) (rr := []) rfl rfl rfl ?_
  refine mt_isParty  ?_
  show am_ex (d + 10) 224 5 [some (.ref 285), some (.int (nI j)), some (.int 0)] [.int (bI (decide (¬ (nI j) < 0 ∧ ¬ (S 285 7) - 1 < (nI j))))] (am_hh X S L) _
  refine ax_pF rfl (fun c1 => ?_) (fun c1 => ?_)
  · refine ax_s (pc' := 19) (st' := [.int (-1000001)]) rfl rfl rfl rfl ?_
    refine ax_r rfl rfl rfl ?_
    exact k1 c1
  · refine ax_s (pc' := 9) (st' := [.int 0]) rfl rfl rfl rfl ?_
    refine ax_s (pc' := 10) (st' := [.int 0, .int 0]) rfl rfl rfl rfl ?_
    refine ax_s (pc' := 11) (st' := [.int 1, .int 0, .int 0]) rfl rfl rfl rfl ?_
    refine ax_call (vs := [.int 0, .int 0, .int 1]) (rr := []) rfl rfl rfl ?_
    refine mt_in ?_
    show am_ex (d + 10) 224 14 [some (.ref 285), some (.int (nI j)), some (.int 0)] [.int 1] (am_hh X S L) _
    refine ax_if_ne rfl (fun c2 => ?_) (fun c2 => False.elim (by revert c2; decide))
    refine ax_s (pc' := 21) (st' := [.ref 285]) rfl rfl rfl rfl ?_
    refine ax_s (pc' := 22) (st' := [.int 0, .ref 285]) rfl rfl rfl rfl ?_
    refine ax_put rfl (hh_285 _ _ _) rfl rfl (show 20 + 1 ≤ _ from Nat.le_of_ble_eq_true rfl) rfl (am_hh_set _ _ _ 285 20 _ rfl) ?_
    refine ax_s (pc' := 26) (st' := [.ref 285]) rfl rfl rfl rfl ?_
    refine ax_get rfl (hh_285 _ _ _) rfl rfl rfl ?_
    show am_ex (d + 10) 224 29 [some (.ref 285), some (.int (nI j)), some (.int 0)] [.ref 290] (am_hh X (am_u S 285 20 0) L) _
    refine ax_s (pc' := 30) (st' := [.int (nI j), .ref 290]) rfl rfl rfl rfl ?_
    refine ax_ald (j := j) (v := 1) rfl (hh_290 _ _ _) rfl rfl (x1 c1) (by decide) hk ?_
    refine ax_s (pc' := 32) (st' := [.int 4, .int 1]) rfl rfl rfl rfl ?_
    refine ax_cmp_ge rfl (fun c3 => False.elim (by revert c3; decide)) (fun c3 => ?_)
    refine ax_s (pc' := 36) (st' := [.int 0]) rfl rfl rfl rfl ?_
    refine ax_if_ne rfl (fun c4 => False.elim (by revert c4; decide)) (fun c4 => ?_)
    refine ax_s (pc' := 40) (st' := [.ref 285]) rfl rfl rfl rfl ?_
    refine ax_s (pc' := 41) (st' := [.int (nI j), .ref 285]) rfl rfl rfl rfl ?_
    refine ax_call (vs := [.ref 285, .int (nI j)]) (rr := []) rfl rfl rfl ?_
    refine ax_in (ls := [some (.ref 285), some (.int (nI j)), none]) rfl ?_
    refine ax_s (pc' := 1) (st' := [.ref 285]) rfl rfl rfl rfl ?_
    refine ax_get rfl (hh_285 _ _ _) rfl rfl rfl ?_
    show am_ex (d + 9) 225 4 [some (.ref 285), some (.int (nI j)), none] [.ref 290] (am_hh X (am_u S 285 20 0) L) _
    refine ax_s (pc' := 5) (st' := [.int (nI j), .ref 290]) rfl rfl rfl rfl ?_
    refine ax_ald (j := j) (v := 1) rfl (hh_290 _ _ _) rfl rfl (x1 c1) (by decide) hk ?_
    refine ax_s (pc' := 7) (st' := [.int 2, .int 1]) rfl rfl rfl rfl ?_
    refine ax_cmp_ne rfl (fun c5 => ?_) (fun c5 => False.elim (by revert c5; decide))
    refine ax_s (pc' := 17) (st' := [.ref 285]) rfl rfl rfl rfl ?_
    refine ax_s (pc' := 19) (st' := [.int 11, .ref 285]) rfl rfl rfl rfl ?_
    refine ax_call (vs := [.ref 285, .int 11]) (rr := []) rfl rfl rfl ?_
    refine ax_in (ls := [some (.ref 285), some (.int 11)]) rfl ?_
    refine ax_s (pc' := 1) (st' := [.ref 285]) rfl rfl rfl rfl ?_
    refine ax_get rfl (hh_285 _ _ _) rfl rfl rfl ?_
    show am_ex (d + 8) 226 4 [some (.ref 285), some (.int 11)] [.int 0] (am_hh X (am_u S 285 20 0) L) _
    refine ax_s (pc' := 6) (st' := [.int 16, .int 0]) rfl rfl rfl rfl ?_
    refine ax_cmp_ge rfl (fun c6 => False.elim (by revert c6; decide)) (fun c6 => ?_)
    refine ax_s (pc' := 10) (st' := [.ref 285]) rfl rfl rfl rfl ?_
    refine ax_get rfl (hh_285 _ _ _) rfl rfl rfl ?_
    show am_ex (d + 8) 226 13 [some (.ref 285), some (.int 11)] [.ref 299] (am_hh X (am_u S 285 20 0) L) _
    refine ax_s (pc' := 14) (st' := [.ref 285, .ref 299]) rfl rfl rfl rfl ?_
    refine ax_get rfl (hh_285 _ _ _) rfl rfl rfl ?_
    show am_ex (d + 8) 226 17 [some (.ref 285), some (.int 11)] [.int 0, .ref 299] (am_hh X (am_u S 285 20 0) L) _
    refine ax_s (pc' := 18) (st' := [.int 11, .int 0, .ref 299]) rfl rfl rfl rfl ?_
    refine ax_ast (j := 0) rfl (hh_299 _ _ _) rfl rfl (by decide) (by decide) (am_hh_set _ _ _ 299 0 _ rfl) ?_
    refine ax_s (pc' := 20) (st' := [.ref 285]) rfl rfl rfl rfl ?_
    refine ax_s (pc' := 21) (st' := [.ref 285, .ref 285]) rfl rfl rfl rfl ?_
    refine ax_get rfl (hh_285 _ _ _) rfl rfl rfl ?_
    show am_ex (d + 8) 226 24 [some (.ref 285), some (.int 11)] [.int 0, .ref 285] (am_hh X (am_u (am_u S 285 20 0) 299 0 11) L) _
    refine ax_s (pc' := 25) (st' := [.int 1, .int 0, .ref 285]) rfl rfl rfl rfl ?_
    refine ax_s (pc' := 26) (st' := [.int 1, .ref 285]) rfl rfl rfl rfl ?_
    refine ax_put rfl (hh_285 _ _ _) rfl rfl (show 20 + 1 ≤ _ from Nat.le_of_ble_eq_true rfl) rfl (am_hh_set _ _ _ 285 20 _ rfl) ?_
    refine ax_r rfl rfl rfl ?_
    show am_ex (d + 9) 225 22 [some (.ref 285), some (.int (nI j)), none] [] (am_hh X (am_u (am_u (am_u S 285 20 0) 299 0 11) 285 20 1) L) _
    refine ax_s (pc' := 23) (st' := [.ref 285]) rfl rfl rfl rfl ?_
    refine ax_s (pc' := 24) (st' := [.int (nI j), .ref 285]) rfl rfl rfl rfl ?_
    refine ax_call (vs := [.ref 285, .int (nI j)]) (rr := []) rfl rfl rfl ?_
    refine ax_in (ls := [some (.ref 285), some (.int (nI j))]) rfl ?_
    refine ax_s (pc' := 1) (st' := [.ref 285]) rfl rfl rfl rfl ?_
    refine ax_s (pc' := 3) (st' := [.int 10, .ref 285]) rfl rfl rfl rfl ?_
    refine ax_call (vs := [.ref 285, .int 10]) (rr := []) rfl rfl rfl ?_
    refine ax_in (ls := [some (.ref 285), some (.int 10)]) rfl ?_
    refine ax_s (pc' := 1) (st' := [.ref 285]) rfl rfl rfl rfl ?_
    refine ax_get rfl (hh_285 _ _ _) rfl rfl rfl ?_
    show am_ex (d + 7) 226 4 [some (.ref 285), some (.int 10)] [.int 1] (am_hh X (am_u (am_u (am_u S 285 20 0) 299 0 11) 285 20 1) L) _
    refine ax_s (pc' := 6) (st' := [.int 16, .int 1]) rfl rfl rfl rfl ?_
    refine ax_cmp_ge rfl (fun c7 => False.elim (by revert c7; decide)) (fun c7 => ?_)
    refine ax_s (pc' := 10) (st' := [.ref 285]) rfl rfl rfl rfl ?_
    refine ax_get rfl (hh_285 _ _ _) rfl rfl rfl ?_
    show am_ex (d + 7) 226 13 [some (.ref 285), some (.int 10)] [.ref 299] (am_hh X (am_u (am_u (am_u S 285 20 0) 299 0 11) 285 20 1) L) _
    refine ax_s (pc' := 14) (st' := [.ref 285, .ref 299]) rfl rfl rfl rfl ?_
    refine ax_get rfl (hh_285 _ _ _) rfl rfl rfl ?_
    show am_ex (d + 7) 226 17 [some (.ref 285), some (.int 10)] [.int 1, .ref 299] (am_hh X (am_u (am_u (am_u S 285 20 0) 299 0 11) 285 20 1) L) _
    refine ax_s (pc' := 18) (st' := [.int 10, .int 1, .ref 299]) rfl rfl rfl rfl ?_
    refine ax_ast (j := 1) rfl (hh_299 _ _ _) rfl rfl (by decide) (by decide) (am_hh_set _ _ _ 299 1 _ rfl) ?_
    refine ax_s (pc' := 20) (st' := [.ref 285]) rfl rfl rfl rfl ?_
    refine ax_s (pc' := 21) (st' := [.ref 285, .ref 285]) rfl rfl rfl rfl ?_
    refine ax_get rfl (hh_285 _ _ _) rfl rfl rfl ?_
    show am_ex (d + 7) 226 24 [some (.ref 285), some (.int 10)] [.int 1, .ref 285] (am_hh X (am_u (am_u (am_u (am_u S 285 20 0) 299 0 11) 285 20 1) 299 1 10) L) _
    refine ax_s (pc' := 25) (st' := [.int 1, .int 1, .ref 285]) rfl rfl rfl rfl ?_
    refine ax_s (pc' := 26) (st' := [.int 2, .ref 285]) rfl rfl rfl rfl ?_
    refine ax_put rfl (hh_285 _ _ _) rfl rfl (show 20 + 1 ≤ _ from Nat.le_of_ble_eq_true rfl) rfl (am_hh_set _ _ _ 285 20 _ rfl) ?_
    refine ax_r rfl rfl rfl ?_
    show am_ex (d + 8) 227 6 [some (.ref 285), some (.int (nI j))] [] (am_hh X (am_u (am_u (am_u (am_u (am_u S 285 20 0) 299 0 11) 285 20 1) 299 1 10) 285 20 2) L) _
    refine ax_s (pc' := 7) (st' := [.ref 285]) rfl rfl rfl rfl ?_
    refine ax_get rfl (hh_285 _ _ _) rfl rfl rfl ?_
    show am_ex (d + 8) 227 10 [some (.ref 285), some (.int (nI j))] [.ref 291] (am_hh X (am_u (am_u (am_u (am_u (am_u S 285 20 0) 299 0 11) 285 20 1) 299 1 10) 285 20 2) L) _
    refine ax_s (pc' := 11) (st' := [.int (nI j), .ref 291]) rfl rfl rfl rfl ?_
    refine ax_ald (j := j) (v := (S 291 j)) rfl (hh_291 _ _ _) rfl rfl (x1 c1) (by decide) rfl ?_
    refine ax_r rfl rfl rfl ?_
    show am_ex (d + 9) 225 27 [some (.ref 285), some (.int (nI j)), none] [.int (S 291 j)] (am_hh X (am_u (am_u (am_u (am_u (am_u S 285 20 0) 299 0 11) 285 20 1) 299 1 10) 285 20 2) L) _
    refine ax_s (pc' := 28) (st' := [.ref 285, .int (S 291 j)]) rfl rfl rfl rfl ?_
    refine ax_s (pc' := 29) (st' := [.int (nI j), .ref 285, .int (S 291 j)]) rfl rfl rfl rfl ?_
    refine ax_call (vs := [.ref 285, .int (nI j)]) (rr := [.int (S 291 j)]) rfl rfl rfl ?_
    refine ax_in (ls := [some (.ref 285), some (.int (nI j))]) rfl ?_
    refine ax_s (pc' := 1) (st' := [.ref 285]) rfl rfl rfl rfl ?_
    refine ax_get rfl (hh_285 _ _ _) rfl rfl rfl ?_
    show am_ex (d + 8) 228 4 [some (.ref 285), some (.int (nI j))] [.ref 290] (am_hh X (am_u (am_u (am_u (am_u (am_u S 285 20 0) 299 0 11) 285 20 1) 299 1 10) 285 20 2) L) _
    refine ax_s (pc' := 5) (st' := [.int (nI j), .ref 290]) rfl rfl rfl rfl ?_
    refine ax_ald (j := j) (v := 1) rfl (hh_290 _ _ _) rfl rfl (x1 c1) (by decide) hk ?_
    refine ax_s (pc' := 7) (st' := [.int 3, .int 1]) rfl rfl rfl rfl ?_
    refine ax_cmp_ne rfl (fun c8 => ?_) (fun c8 => False.elim (by revert c8; decide))
    refine ax_s (pc' := 27) (st' := [.ref 285]) rfl rfl rfl rfl ?_
    refine ax_get rfl (hh_285 _ _ _) rfl rfl rfl ?_
    show am_ex (d + 8) 228 30 [some (.ref 285), some (.int (nI j))] [.ref 290] (am_hh X (am_u (am_u (am_u (am_u (am_u S 285 20 0) 299 0 11) 285 20 1) 299 1 10) 285 20 2) L) _
    refine ax_s (pc' := 31) (st' := [.int (nI j), .ref 290]) rfl rfl rfl rfl ?_
    refine ax_ald (j := j) (v := 1) rfl (hh_290 _ _ _) rfl rfl (x1 c1) (by decide) hk ?_
    refine ax_s (pc' := 33) (st' := [.int 2, .int 1]) rfl rfl rfl rfl ?_
    refine ax_cmp_ne rfl (fun c9 => ?_) (fun c9 => False.elim (by revert c9; decide))
    refine ax_s (pc' := 51) (st' := [.ref 285]) rfl rfl rfl rfl ?_
    refine ax_s (pc' := 52) (st' := [.int (nI j), .ref 285]) rfl rfl rfl rfl ?_
    refine ax_call (vs := [.ref 285, .int (nI j)]) (rr := []) rfl rfl rfl ?_
    refine ax_in (ls := [some (.ref 285), some (.int (nI j))]) rfl ?_
    refine ax_s (pc' := 1) (st' := [.ref 285]) rfl rfl rfl rfl ?_
    refine ax_s (pc' := 3) (st' := [.int 21, .ref 285]) rfl rfl rfl rfl ?_
    refine ax_call (vs := [.ref 285, .int 21]) (rr := []) rfl rfl rfl ?_
    refine ax_in (ls := [some (.ref 285), some (.int 21)]) rfl ?_
    refine ax_s (pc' := 1) (st' := [.ref 285]) rfl rfl rfl rfl ?_
    refine ax_get rfl (hh_285 _ _ _) rfl rfl rfl ?_
    show am_ex (d + 6) 226 4 [some (.ref 285), some (.int 21)] [.int 2] (am_hh X (am_u (am_u (am_u (am_u (am_u S 285 20 0) 299 0 11) 285 20 1) 299 1 10) 285 20 2) L) _
    refine ax_s (pc' := 6) (st' := [.int 16, .int 2]) rfl rfl rfl rfl ?_
    refine ax_cmp_ge rfl (fun c10 => False.elim (by revert c10; decide)) (fun c10 => ?_)
    refine ax_s (pc' := 10) (st' := [.ref 285]) rfl rfl rfl rfl ?_
    refine ax_get rfl (hh_285 _ _ _) rfl rfl rfl ?_
    show am_ex (d + 6) 226 13 [some (.ref 285), some (.int 21)] [.ref 299] (am_hh X (am_u (am_u (am_u (am_u (am_u S 285 20 0) 299 0 11) 285 20 1) 299 1 10) 285 20 2) L) _
    refine ax_s (pc' := 14) (st' := [.ref 285, .ref 299]) rfl rfl rfl rfl ?_
    refine ax_get rfl (hh_285 _ _ _) rfl rfl rfl ?_
    show am_ex (d + 6) 226 17 [some (.ref 285), some (.int 21)] [.int 2, .ref 299] (am_hh X (am_u (am_u (am_u (am_u (am_u S 285 20 0) 299 0 11) 285 20 1) 299 1 10) 285 20 2) L) _
    refine ax_s (pc' := 18) (st' := [.int 21, .int 2, .ref 299]) rfl rfl rfl rfl ?_
    refine ax_ast (j := 2) rfl (hh_299 _ _ _) rfl rfl (by decide) (by decide) (am_hh_set _ _ _ 299 2 _ rfl) ?_
    refine ax_s (pc' := 20) (st' := [.ref 285]) rfl rfl rfl rfl ?_
    refine ax_s (pc' := 21) (st' := [.ref 285, .ref 285]) rfl rfl rfl rfl ?_
    refine ax_get rfl (hh_285 _ _ _) rfl rfl rfl ?_
    show am_ex (d + 6) 226 24 [some (.ref 285), some (.int 21)] [.int 2, .ref 285] (am_hh X (am_u (am_u (am_u (am_u (am_u (am_u S 285 20 0) 299 0 11) 285 20 1) 299 1 10) 285 20 2) 299 2 21) L) _
    refine ax_s (pc' := 25) (st' := [.int 1, .int 2, .ref 285]) rfl rfl rfl rfl ?_
    refine ax_s (pc' := 26) (st' := [.int 3, .ref 285]) rfl rfl rfl rfl ?_
    refine ax_put rfl (hh_285 _ _ _) rfl rfl (show 20 + 1 ≤ _ from Nat.le_of_ble_eq_true rfl) rfl (am_hh_set _ _ _ 285 20 _ rfl) ?_
    refine ax_r rfl rfl rfl ?_
    show am_ex (d + 7) 229 6 [some (.ref 285), some (.int (nI j))] [] (am_hh X (am_u (am_u (am_u (am_u (am_u (am_u (am_u S 285 20 0) 299 0 11) 285 20 1) 299 1 10) 285 20 2) 299 2 21) 285 20 3) L) _
    refine ax_s (pc' := 7) (st' := [.ref 285]) rfl rfl rfl rfl ?_
    refine ax_s (pc' := 8) (st' := [.int (nI j), .ref 285]) rfl rfl rfl rfl ?_
    refine ax_call (vs := [.ref 285, .int (nI j)]) (rr := []) rfl rfl rfl ?_
    refine ax_in (ls := [some (.ref 285), some (.int (nI j))]) rfl ?_
    refine ax_s (pc' := 1) (st' := [.ref 285]) rfl rfl rfl rfl ?_
    refine ax_s (pc' := 3) (st' := [.int 20, .ref 285]) rfl rfl rfl rfl ?_
    refine ax_call (vs := [.ref 285, .int 20]) (rr := []) rfl rfl rfl ?_
    refine ax_in (ls := [some (.ref 285), some (.int 20)]) rfl ?_
    refine ax_s (pc' := 1) (st' := [.ref 285]) rfl rfl rfl rfl ?_
    refine ax_get rfl (hh_285 _ _ _) rfl rfl rfl ?_
    show am_ex (d + 5) 226 4 [some (.ref 285), some (.int 20)] [.int 3] (am_hh X (am_u (am_u (am_u (am_u (am_u (am_u (am_u S 285 20 0) 299 0 11) 285 20 1) 299 1 10) 285 20 2) 299 2 21) 285 20 3) L) _
    refine ax_s (pc' := 6) (st' := [.int 16, .int 3]) rfl rfl rfl rfl ?_
    refine ax_cmp_ge rfl (fun c11 => False.elim (by revert c11; decide)) (fun c11 => ?_)
    refine ax_s (pc' := 10) (st' := [.ref 285]) rfl rfl rfl rfl ?_
    refine ax_get rfl (hh_285 _ _ _) rfl rfl rfl ?_
    show am_ex (d + 5) 226 13 [some (.ref 285), some (.int 20)] [.ref 299] (am_hh X (am_u (am_u (am_u (am_u (am_u (am_u (am_u S 285 20 0) 299 0 11) 285 20 1) 299 1 10) 285 20 2) 299 2 21) 285 20 3) L) _
    refine ax_s (pc' := 14) (st' := [.ref 285, .ref 299]) rfl rfl rfl rfl ?_
    refine ax_get rfl (hh_285 _ _ _) rfl rfl rfl ?_
    show am_ex (d + 5) 226 17 [some (.ref 285), some (.int 20)] [.int 3, .ref 299] (am_hh X (am_u (am_u (am_u (am_u (am_u (am_u (am_u S 285 20 0) 299 0 11) 285 20 1) 299 1 10) 285 20 2) 299 2 21) 285 20 3) L) _
    refine ax_s (pc' := 18) (st' := [.int 20, .int 3, .ref 299]) rfl rfl rfl rfl ?_
    refine ax_ast (j := 3) rfl (hh_299 _ _ _) rfl rfl (by decide) (by decide) (am_hh_set _ _ _ 299 3 _ rfl) ?_
    refine ax_s (pc' := 20) (st' := [.ref 285]) rfl rfl rfl rfl ?_
    refine ax_s (pc' := 21) (st' := [.ref 285, .ref 285]) rfl rfl rfl rfl ?_
    refine ax_get rfl (hh_285 _ _ _) rfl rfl rfl ?_
    show am_ex (d + 5) 226 24 [some (.ref 285), some (.int 20)] [.int 3, .ref 285] (am_hh X (am_u (am_u (am_u (am_u (am_u (am_u (am_u (am_u S 285 20 0) 299 0 11) 285 20 1) 299 1 10) 285 20 2) 299 2 21) 285 20 3) 299 3 20) L) _
    refine ax_s (pc' := 25) (st' := [.int 1, .int 3, .ref 285]) rfl rfl rfl rfl ?_
    refine ax_s (pc' := 26) (st' := [.int 4, .ref 285]) rfl rfl rfl rfl ?_
    refine ax_put rfl (hh_285 _ _ _) rfl rfl (show 20 + 1 ≤ _ from Nat.le_of_ble_eq_true rfl) rfl (am_hh_set _ _ _ 285 20 _ rfl) ?_
    refine ax_r rfl rfl rfl ?_
    show am_ex (d + 6) 230 6 [some (.ref 285), some (.int (nI j))] [] (am_hh X (am_u (am_u (am_u (am_u (am_u (am_u (am_u (am_u (am_u S 285 20 0) 299 0 11) 285 20 1) 299 1 10) 285 20 2) 299 2 21) 285 20 3) 299 3 20) 285 20 4) L) _
    refine ax_s (pc' := 7) (st' := [.int (nI j)]) rfl rfl rfl rfl ?_
    refine ax_r rfl rfl rfl ?_
    show am_ex (d + 7) 229 11 [some (.ref 285), some (.int (nI j))] [.int (nI j)] (am_hh X (am_u (am_u (am_u (am_u (am_u (am_u (am_u (am_u (am_u S 285 20 0) 299 0 11) 285 20 1) 299 1 10) 285 20 2) 299 2 21) 285 20 3) 299 3 20) 285 20 4) L) _
    refine ax_s (pc' := 12) (st' := [.ref 285, .int (nI j)]) rfl rfl rfl rfl ?_
    refine ax_get rfl (hh_285 _ _ _) rfl rfl rfl ?_
    show am_ex (d + 7) 229 15 [some (.ref 285), some (.int (nI j))] [.ref 293, .int (nI j)] (am_hh X (am_u (am_u (am_u (am_u (am_u (am_u (am_u (am_u (am_u S 285 20 0) 299 0 11) 285 20 1) 299 1 10) 285 20 2) 299 2 21) 285 20 3) 299 3 20) 285 20 4) L) _
    refine ax_s (pc' := 17) (st' := [.int 27, .ref 293, .int (nI j)]) rfl rfl rfl rfl ?_
    refine ax_s (pc' := 18) (st' := [.int (nI j), .int 27, .ref 293, .int (nI j)]) rfl rfl rfl rfl ?_
    refine ax_s (pc' := 19) (st' := [.int (27 + (nI j)), .ref 293, .int (nI j)]) rfl rfl rfl rfl ?_
    refine ax_ald (j := (27 + j)) (v := (S 293 (27 + j))) rfl (hh_293 _ _ _) rfl (am_na (x := 27) (y := j) rfl rfl) (x2 c1) (by decide) rfl ?_
    refine ax_s (pc' := 21) (st' := [.int ((nI j) + (S 293 (27 + j)))]) rfl rfl rfl rfl ?_
    refine ax_r rfl rfl rfl ?_
    show am_ex (d + 8) 228 55 [some (.ref 285), some (.int (nI j))] [.int ((nI j) + (S 293 (27 + j)))] (am_hh X (am_u (am_u (am_u (am_u (am_u (am_u (am_u (am_u (am_u S 285 20 0) 299 0 11) 285 20 1) 299 1 10) 285 20 2) 299 2 21) 285 20 3) 299 3 20) 285 20 4) L) _
    refine ax_r rfl rfl rfl ?_
    show am_ex (d + 9) 225 32 [some (.ref 285), some (.int (nI j)), none] [.int ((nI j) + (S 293 (27 + j))), .int (S 291 j)] (am_hh X (am_u (am_u (am_u (am_u (am_u (am_u (am_u (am_u (am_u S 285 20 0) 299 0 11) 285 20 1) 299 1 10) 285 20 2) 299 2 21) 285 20 3) 299 3 20) 285 20 4) L) _
    refine ax_s (pc' := 33) (st' := [.int ((S 291 j) + ((nI j) + (S 293 (27 + j))))]) rfl rfl rfl rfl ?_
    refine ax_s (pc' := 34) (ls' := [some (.ref 285), some (.int (nI j)), some (.int ((S 291 j) + ((nI j) + (S 293 (27 + j)))))]) (st' := []) rfl rfl rfl rfl ?_
    refine ax_s (pc' := 35) (st' := [.ref 285]) rfl rfl rfl rfl ?_
    refine ax_get rfl (hh_285 _ _ _) rfl rfl rfl ?_
    show am_ex (d + 9) 225 38 [some (.ref 285), some (.int (nI j)), some (.int ((S 291 j) + ((nI j) + (S 293 (27 + j)))))] [.ref 290] (am_hh X (am_u (am_u (am_u (am_u (am_u (am_u (am_u (am_u (am_u S 285 20 0) 299 0 11) 285 20 1) 299 1 10) 285 20 2) 299 2 21) 285 20 3) 299 3 20) 285 20 4) L) _
    refine ax_s (pc' := 39) (st' := [.int (nI j), .ref 290]) rfl rfl rfl rfl ?_
    refine ax_ald (j := j) (v := 1) rfl (hh_290 _ _ _) rfl rfl (x1 c1) (by decide) hk ?_
    refine ax_s (pc' := 41) (st' := [.int 2, .int 1]) rfl rfl rfl rfl ?_
    refine ax_cmp_ne rfl (fun c12 => ?_) (fun c12 => False.elim (by revert c12; decide))
    refine ax_s (pc' := 50) (st' := [.int ((S 291 j) + ((nI j) + (S 293 (27 + j))))]) rfl rfl rfl rfl ?_
    refine ax_r rfl rfl rfl ?_
    show am_ex (d + 10) 224 44 [some (.ref 285), some (.int (nI j)), some (.int 0)] [.int ((S 291 j) + ((nI j) + (S 293 (27 + j))))] (am_hh X (am_u (am_u (am_u (am_u (am_u (am_u (am_u (am_u (am_u S 285 20 0) 299 0 11) 285 20 1) 299 1 10) 285 20 2) 299 2 21) 285 20 3) 299 3 20) 285 20 4) L) _
    refine ax_s (pc' := 52) (st' := [.int ((S 291 j) + ((nI j) + (S 293 (27 + j))))]) rfl rfl rfl rfl ?_
    refine ax_r rfl rfl rfl ?_
    exact k2 c1
theorem wk_ask_1_1 {d : Nat} {X : Nat × (Nat → Int32)} {S : Nat → Nat → Int32} {L : Nat → Int64} {j : Nat} {Q : Option Value → am_H → Prop} (hk : S 22 j = 1) (hj : j < 6)  (x1 : ¬ (nI j) < 0 ∧ ¬ (S 20 4) ≤ (nI j) → j < 6) (k1 : ¬ (¬ (nI j) < 0 ∧ ¬ (S 20 4) ≤ (nI j)) → Q (some (.int (-1000001))) (am_hh X S L)) (k2 : ¬ (nI j) < 0 ∧ ¬ (S 20 4) ≤ (nI j) → Q (some (.int ((nI j) + (S 27 j)))) (am_hh X (am_u (am_u (am_u (am_u (am_u S 283 2 0) 284 0 21) 283 2 1) 284 1 20) 283 2 2) L)) : am_mt (d + 30) 136 [.ref 5, .int (nI j), .int 1] (am_hh X S L) Q := by
  refine ax_in (ls := [some (.ref 5), some (.int (nI j)), some (.int 1)]) rfl ?_
  refine ax_s (pc' := 1) (st' := [.ref 5]) rfl rfl rfl rfl ?_
  refine ax_get rfl (hh_5 _ _ _) rfl rfl rfl ?_
  show am_ex (d + 30) 136 4 [some (.ref 5), some (.int (nI j)), some (.int 1)] [.ref 20] (am_hh X S L) _
  refine ax_s (pc' := 5) (st' := [.int (nI j), .ref 20]) rfl rfl rfl rfl ?_
  refine ax_call (vs := [.ref 20, .int (nI j)]) (rr := []) rfl rfl rfl ?_
  refine kw (am_hh_sub isW20 X S L) (am_hh_sub isW20 X S L).symm (fun _ => ct_hasParty (am_isW_k isW20 X S L)) ?_
  show am_ex (d + 30) 136 8 [some (.ref 5), some (.int (nI j)), some (.int 1)] [.int (bI (decide (¬ (nI j) < 0 ∧ ¬ (S 20 4) ≤ (nI j))))] (am_hh X S L) _
  refine ax_pF rfl (fun c1 => ?_) (fun c1 => ?_)
  · refine ax_s (pc' := 22) (st' := [.int (-1000001)]) rfl rfl rfl rfl ?_
    refine ax_r rfl rfl rfl ?_
    exact k1 c1
  · refine ax_s (pc' := 12) (st' := [.int 1]) rfl rfl rfl rfl ?_
    refine ax_s (pc' := 13) (st' := [.int 0, .int 1]) rfl rfl rfl rfl ?_
    refine ax_s (pc' := 14) (st' := [.int 1, .int 0, .int 1]) rfl rfl rfl rfl ?_
    refine ax_call (vs := [.int 1, .int 0, .int 1]) (rr := []) rfl rfl rfl ?_
    refine ct_isOutside ?_
    show am_ex (d + 30) 136 17 [some (.ref 5), some (.int (nI j)), some (.int 1)] [.int 0] (am_hh X S L) _
    refine ax_if_eq rfl (fun c2 => ?_) (fun c2 => False.elim (by revert c2; decide))
    refine ax_s (pc' := 24) (st' := [.ref 5]) rfl rfl rfl rfl ?_
    refine ax_get rfl (hh_5 _ _ _) rfl rfl rfl ?_
    show am_ex (d + 30) 136 27 [some (.ref 5), some (.int (nI j)), some (.int 1)] [.ref 283] (am_hh X S L) _
    refine ax_s (pc' := 28) (st' := [.int (nI j), .ref 283]) rfl rfl rfl rfl ?_
    refine ax_s (pc' := 29) (st' := [.int 1, .int (nI j), .ref 283]) rfl rfl rfl rfl ?_
    refine ax_call (vs := [.ref 283, .int (nI j), .int 1]) (rr := []) rfl rfl rfl ?_
    refine ax_in (ls := [some (.ref 283), some (.int (nI j)), some (.int 1)]) rfl ?_
    refine ax_s (pc' := 1) (st' := [.ref 283]) rfl rfl rfl rfl ?_
    refine ax_s (pc' := 2) (st' := [.int 0, .ref 283]) rfl rfl rfl rfl ?_
    refine ax_put rfl (hh_283 _ _ _) rfl rfl (show 2 + 1 ≤ _ from Nat.le_of_ble_eq_true rfl) rfl (am_hh_set _ _ _ 283 2 _ rfl) ?_
    refine ax_s (pc' := 6) (st' := [.ref 283]) rfl rfl rfl rfl ?_
    refine ax_s (pc' := 7) (st' := [.int (nI j), .ref 283]) rfl rfl rfl rfl ?_
    refine ax_s (pc' := 8) (st' := [.int 1, .int (nI j), .ref 283]) rfl rfl rfl rfl ?_
    refine ax_s (pc' := 9) (st' := [.int 0, .int 1, .int (nI j), .ref 283]) rfl rfl rfl rfl ?_
    refine ax_call (vs := [.ref 283, .int (nI j), .int 1, .int 0]) (rr := []) rfl rfl rfl ?_
    refine ax_in (ls := [some (.ref 283), some (.int (nI j)), some (.int 1), some (.int 0)]) rfl ?_
    refine ax_s (pc' := 1) (st' := [.ref 283]) rfl rfl rfl rfl ?_
    refine ax_s (pc' := 2) (st' := [.ref 283, .ref 283]) rfl rfl rfl rfl ?_
    refine ax_get rfl (hh_283 _ _ _) rfl rfl rfl ?_
    show am_ex (d + 28) 137 5 [some (.ref 283), some (.int (nI j)), some (.int 1), some (.int 0)] [.ref 20, .ref 283] (am_hh X (am_u S 283 2 0) L) _
    refine ax_get rfl (hh_20 _ _ _) rfl rfl rfl ?_
    show am_ex (d + 28) 137 8 [some (.ref 283), some (.int (nI j)), some (.int 1), some (.int 0)] [.ref 22, .ref 283] (am_hh X (am_u S 283 2 0) L) _
    refine ax_s (pc' := 9) (st' := [.int (nI j), .ref 22, .ref 283]) rfl rfl rfl rfl ?_
    refine ax_ald (j := j) (v := 1) rfl (hh_22 _ _ _) rfl rfl (x1 c1) (by decide) hk ?_
    refine ax_s (pc' := 11) (st' := [.int 1, .int 1, .ref 283]) rfl rfl rfl rfl ?_
    refine ax_if_ne rfl (fun c3 => ?_) (fun c3 => False.elim (by revert c3; decide))
    refine ax_s (pc' := 23) (st' := [.ref 4, .int 1, .ref 283]) rfl rfl rfl rfl ?_
    refine ax_call (vs := [.int 1, .ref 4]) (rr := [.ref 283]) rfl rfl rfl ?_
    refine ax_in (ls := [some (.int 1), some (.ref 4), none, none]) rfl ?_
    refine ax_s (pc' := 1) (st' := [.int 1]) rfl rfl rfl rfl ?_
    refine ax_s (pc' := 2) (ls' := [some (.int 1), some (.ref 4), some (.int 1), none]) (st' := []) rfl rfl rfl rfl ?_
    refine ax_s (pc' := 3) (st' := [.int 0]) rfl rfl rfl rfl ?_
    refine ax_s (pc' := 4) (ls' := [some (.int 1), some (.ref 4), some (.int 1), some (.int 0)]) (st' := []) rfl rfl rfl rfl ?_
    refine ax_s (pc' := 5) (st' := [.int 0]) rfl rfl rfl rfl ?_
    refine ax_s (pc' := 6) (st' := [.int 5, .int 0]) rfl rfl rfl rfl ?_
    refine ax_cmp_gt rfl (fun c4 => False.elim (by revert c4; decide)) (fun c4 => ?_)
    refine ax_s (pc' := 10) (st' := [.int 1]) rfl rfl rfl rfl ?_
    refine ax_call (vs := [.int 1]) (rr := []) rfl rfl rfl ?_
    refine ax_in (ls := [some (.int 1)]) rfl ?_
    refine ax_s (pc' := 1) (st' := [.int 1]) rfl rfl rfl rfl ?_
    refine ax_if_lt rfl (fun c5 => False.elim (by revert c5; decide)) (fun c5 => ?_)
    refine ax_s (pc' := 5) (st' := [.int 1]) rfl rfl rfl rfl ?_
    refine ax_s (pc' := 6) (st' := [.int 5, .int 1]) rfl rfl rfl rfl ?_
    refine ax_cmp_gt rfl (fun c6 => False.elim (by revert c6; decide)) (fun c6 => ?_)
    refine ax_s (pc' := 10) (st' := [.int 1]) rfl rfl rfl rfl ?_
    refine ax_s (pc' := 14) (st' := [.int 1]) rfl rfl rfl rfl ?_
    refine ax_rb (b := true) rfl rfl ?_
    show am_ex (d + 27) 138 13 [some (.int 1), some (.ref 4), some (.int 1), some (.int 0)] [.int 1] (am_hh X (am_u S 283 2 0) L) _
    refine ax_if_eq rfl (fun c7 => False.elim (by revert c7; decide)) (fun c7 => ?_)
    refine ax_s (pc' := 17) (st' := [.ref 4]) rfl rfl rfl rfl ?_
    refine ax_s (pc' := 18) (st' := [.int 1, .ref 4]) rfl rfl rfl rfl ?_
    refine ax_ald (j := 1) (v := 21) rfl (hh_s4 _ _ _) rfl rfl (by decide) (by decide) rfl ?_
    refine ax_s (pc' := 21) (st' := [.int (-1000000), .int 21]) rfl rfl rfl rfl ?_
    refine ax_cmp_eq rfl (fun c8 => False.elim (by revert c8; decide)) (fun c8 => ?_)
    refine ax_s (pc' := 25) (st' := [.ref 4]) rfl rfl rfl rfl ?_
    refine ax_s (pc' := 26) (st' := [.int 1, .ref 4]) rfl rfl rfl rfl ?_
    refine ax_ald (j := 1) (v := 21) rfl (hh_s4 _ _ _) rfl rfl (by decide) (by decide) rfl ?_
    refine ax_r rfl rfl rfl ?_
    show am_ex (d + 28) 137 26 [some (.ref 283), some (.int (nI j)), some (.int 1), some (.int 0)] [.int 21, .ref 283] (am_hh X (am_u S 283 2 0) L) _
    refine ax_s (pc' := 27) (st' := [.int (nI j), .int 21, .ref 283]) rfl rfl rfl rfl ?_
    refine ax_s (pc' := 28) (st' := [.int 0, .int (nI j), .int 21, .ref 283]) rfl rfl rfl rfl ?_
    refine ax_call (vs := [.ref 283, .int 21, .int (nI j), .int 0]) (rr := []) rfl rfl rfl ?_
    refine ax_in (ls := [some (.ref 283), some (.int 21), some (.int (nI j)), some (.int 0), none]) rfl ?_
    refine ax_s (pc' := 1) (st' := [.int 0]) rfl rfl rfl rfl ?_
    refine ax_s (pc' := 3) (st' := [.int 16, .int 0]) rfl rfl rfl rfl ?_
    refine ax_cmp_le rfl (fun c9 => ?_) (fun c9 => False.elim (by revert c9; decide))
    refine ax_s (pc' := 10) (st' := [.ref 283]) rfl rfl rfl rfl ?_
    refine ax_s (pc' := 11) (st' := [.int 21, .ref 283]) rfl rfl rfl rfl ?_
    refine ax_call (vs := [.ref 283, .int 21]) (rr := []) rfl rfl rfl ?_
    refine ax_in (ls := [some (.ref 283), some (.int 21)]) rfl ?_
    refine ax_s (pc' := 1) (st' := [.ref 283]) rfl rfl rfl rfl ?_
    refine ax_get rfl (hh_283 _ _ _) rfl rfl rfl ?_
    show am_ex (d + 26) 140 4 [some (.ref 283), some (.int 21)] [.int 0] (am_hh X (am_u S 283 2 0) L) _
    refine ax_if_lt rfl (fun c10 => False.elim (by revert c10; decide)) (fun c10 => ?_)
    refine ax_s (pc' := 8) (st' := [.ref 283]) rfl rfl rfl rfl ?_
    refine ax_get rfl (hh_283 _ _ _) rfl rfl rfl ?_
    show am_ex (d + 26) 140 11 [some (.ref 283), some (.int 21)] [.int 0] (am_hh X (am_u S 283 2 0) L) _
    refine ax_s (pc' := 13) (st' := [.int 16, .int 0]) rfl rfl rfl rfl ?_
    refine ax_cmp_ge rfl (fun c11 => False.elim (by revert c11; decide)) (fun c11 => ?_)
    refine ax_s (pc' := 17) (st' := [.ref 283]) rfl rfl rfl rfl ?_
    refine ax_get rfl (hh_283 _ _ _) rfl rfl rfl ?_
    show am_ex (d + 26) 140 20 [some (.ref 283), some (.int 21)] [.ref 284] (am_hh X (am_u S 283 2 0) L) _
    refine ax_s (pc' := 21) (st' := [.ref 283, .ref 284]) rfl rfl rfl rfl ?_
    refine ax_get rfl (hh_283 _ _ _) rfl rfl rfl ?_
    show am_ex (d + 26) 140 24 [some (.ref 283), some (.int 21)] [.int 0, .ref 284] (am_hh X (am_u S 283 2 0) L) _
    refine ax_s (pc' := 25) (st' := [.int 21, .int 0, .ref 284]) rfl rfl rfl rfl ?_
    refine ax_ast (j := 0) rfl (hh_284 _ _ _) rfl rfl (by decide) (by decide) (am_hh_set _ _ _ 284 0 _ rfl) ?_
    refine ax_s (pc' := 27) (st' := [.ref 283]) rfl rfl rfl rfl ?_
    refine ax_s (pc' := 28) (st' := [.ref 283, .ref 283]) rfl rfl rfl rfl ?_
    refine ax_get rfl (hh_283 _ _ _) rfl rfl rfl ?_
    show am_ex (d + 26) 140 31 [some (.ref 283), some (.int 21)] [.int 0, .ref 283] (am_hh X (am_u (am_u S 283 2 0) 284 0 21) L) _
    refine ax_s (pc' := 32) (st' := [.int 1, .int 0, .ref 283]) rfl rfl rfl rfl ?_
    refine ax_s (pc' := 33) (st' := [.int 1, .ref 283]) rfl rfl rfl rfl ?_
    refine ax_put rfl (hh_283 _ _ _) rfl rfl (show 2 + 1 ≤ _ from Nat.le_of_ble_eq_true rfl) rfl (am_hh_set _ _ _ 283 2 _ rfl) ?_
    refine ax_r rfl rfl rfl ?_
    show am_ex (d + 27) 139 14 [some (.ref 283), some (.int 21), some (.int (nI j)), some (.int 0), none] [] (am_hh X (am_u (am_u (am_u S 283 2 0) 284 0 21) 283 2 1) L) _
    refine ax_s (pc' := 15) (st' := [.int 0]) rfl rfl rfl rfl ?_
    refine ax_s (pc' := 16) (st' := [.int 1, .int 0]) rfl rfl rfl rfl ?_
    refine ax_s (pc' := 17) (st' := [.int 1]) rfl rfl rfl rfl ?_
    refine ax_s (pc' := 19) (ls' := [some (.ref 283), some (.int 21), some (.int (nI j)), some (.int 0), some (.int 1)]) (st' := []) rfl rfl rfl rfl ?_
    refine ax_s (pc' := 20) (st' := [.int 21]) rfl rfl rfl rfl ?_
    refine ax_s (pc' := 164) (ls' := [some (.ref 283), some (.int 21), some (.int (nI j)), some (.int 0), some (.int 1)]) (st' := []) (h1 := (am_hh X (am_u (am_u (am_u S 283 2 0) 284 0 21) 283 2 1) L)) rfl rfl rfl rfl ?_
    refine ax_s (pc' := 165) (st' := [.ref 283]) rfl rfl rfl rfl ?_
    refine ax_s (pc' := 167) (st' := [.int 20, .ref 283]) rfl rfl rfl rfl ?_
    refine ax_s (pc' := 168) (st' := [.int (nI j), .int 20, .ref 283]) rfl rfl rfl rfl ?_
    refine ax_s (pc' := 170) (st' := [.int 1, .int (nI j), .int 20, .ref 283]) rfl rfl rfl rfl ?_
    refine ax_call (vs := [.ref 283, .int 20, .int (nI j), .int 1]) (rr := []) rfl rfl rfl ?_
    refine ax_in (ls := [some (.ref 283), some (.int 20), some (.int (nI j)), some (.int 1), none]) rfl ?_
    refine ax_s (pc' := 1) (st' := [.int 1]) rfl rfl rfl rfl ?_
    refine ax_s (pc' := 3) (st' := [.int 16, .int 1]) rfl rfl rfl rfl ?_
    refine ax_cmp_le rfl (fun c12 => ?_) (fun c12 => False.elim (by revert c12; decide))
    refine ax_s (pc' := 10) (st' := [.ref 283]) rfl rfl rfl rfl ?_
    refine ax_s (pc' := 11) (st' := [.int 20, .ref 283]) rfl rfl rfl rfl ?_
    refine ax_call (vs := [.ref 283, .int 20]) (rr := []) rfl rfl rfl ?_
    refine ax_in (ls := [some (.ref 283), some (.int 20)]) rfl ?_
    refine ax_s (pc' := 1) (st' := [.ref 283]) rfl rfl rfl rfl ?_
    refine ax_get rfl (hh_283 _ _ _) rfl rfl rfl ?_
    show am_ex (d + 25) 140 4 [some (.ref 283), some (.int 20)] [.int 1] (am_hh X (am_u (am_u (am_u S 283 2 0) 284 0 21) 283 2 1) L) _
    refine ax_if_lt rfl (fun c13 => False.elim (by revert c13; decide)) (fun c13 => ?_)
    refine ax_s (pc' := 8) (st' := [.ref 283]) rfl rfl rfl rfl ?_
    refine ax_get rfl (hh_283 _ _ _) rfl rfl rfl ?_
    show am_ex (d + 25) 140 11 [some (.ref 283), some (.int 20)] [.int 1] (am_hh X (am_u (am_u (am_u S 283 2 0) 284 0 21) 283 2 1) L) _
    refine ax_s (pc' := 13) (st' := [.int 16, .int 1]) rfl rfl rfl rfl ?_
    refine ax_cmp_ge rfl (fun c14 => False.elim (by revert c14; decide)) (fun c14 => ?_)
    refine ax_s (pc' := 17) (st' := [.ref 283]) rfl rfl rfl rfl ?_
    refine ax_get rfl (hh_283 _ _ _) rfl rfl rfl ?_
    show am_ex (d + 25) 140 20 [some (.ref 283), some (.int 20)] [.ref 284] (am_hh X (am_u (am_u (am_u S 283 2 0) 284 0 21) 283 2 1) L) _
    refine ax_s (pc' := 21) (st' := [.ref 283, .ref 284]) rfl rfl rfl rfl ?_
    refine ax_get rfl (hh_283 _ _ _) rfl rfl rfl ?_
    show am_ex (d + 25) 140 24 [some (.ref 283), some (.int 20)] [.int 1, .ref 284] (am_hh X (am_u (am_u (am_u S 283 2 0) 284 0 21) 283 2 1) L) _
    refine ax_s (pc' := 25) (st' := [.int 20, .int 1, .ref 284]) rfl rfl rfl rfl ?_
    refine ax_ast (j := 1) rfl (hh_284 _ _ _) rfl rfl (by decide) (by decide) (am_hh_set _ _ _ 284 1 _ rfl) ?_
    refine ax_s (pc' := 27) (st' := [.ref 283]) rfl rfl rfl rfl ?_
    refine ax_s (pc' := 28) (st' := [.ref 283, .ref 283]) rfl rfl rfl rfl ?_
    refine ax_get rfl (hh_283 _ _ _) rfl rfl rfl ?_
    show am_ex (d + 25) 140 31 [some (.ref 283), some (.int 20)] [.int 1, .ref 283] (am_hh X (am_u (am_u (am_u (am_u S 283 2 0) 284 0 21) 283 2 1) 284 1 20) L) _
    refine ax_s (pc' := 32) (st' := [.int 1, .int 1, .ref 283]) rfl rfl rfl rfl ?_
    refine ax_s (pc' := 33) (st' := [.int 2, .ref 283]) rfl rfl rfl rfl ?_
    refine ax_put rfl (hh_283 _ _ _) rfl rfl (show 2 + 1 ≤ _ from Nat.le_of_ble_eq_true rfl) rfl (am_hh_set _ _ _ 283 2 _ rfl) ?_
    refine ax_r rfl rfl rfl ?_
    show am_ex (d + 26) 139 14 [some (.ref 283), some (.int 20), some (.int (nI j)), some (.int 1), none] [] (am_hh X (am_u (am_u (am_u (am_u (am_u S 283 2 0) 284 0 21) 283 2 1) 284 1 20) 283 2 2) L) _
    refine ax_s (pc' := 15) (st' := [.int 1]) rfl rfl rfl rfl ?_
    refine ax_s (pc' := 16) (st' := [.int 1, .int 1]) rfl rfl rfl rfl ?_
    refine ax_s (pc' := 17) (st' := [.int 2]) rfl rfl rfl rfl ?_
    refine ax_s (pc' := 19) (ls' := [some (.ref 283), some (.int 20), some (.int (nI j)), some (.int 1), some (.int 2)]) (st' := []) rfl rfl rfl rfl ?_
    refine ax_s (pc' := 20) (st' := [.int 20]) rfl rfl rfl rfl ?_
    refine ax_s (pc' := 162) (ls' := [some (.ref 283), some (.int 20), some (.int (nI j)), some (.int 1), some (.int 2)]) (st' := []) (h1 := (am_hh X (am_u (am_u (am_u (am_u (am_u S 283 2 0) 284 0 21) 283 2 1) 284 1 20) 283 2 2) L)) rfl rfl rfl rfl ?_
    refine ax_s (pc' := 163) (st' := [.int (nI j)]) rfl rfl rfl rfl ?_
    refine ax_r rfl rfl rfl ?_
    show am_ex (d + 27) 139 173 [some (.ref 283), some (.int 21), some (.int (nI j)), some (.int 0), some (.int 1)] [.int (nI j)] (am_hh X (am_u (am_u (am_u (am_u (am_u S 283 2 0) 284 0 21) 283 2 1) 284 1 20) 283 2 2) L) _
    refine ax_s (pc' := 174) (st' := [.ref 283, .int (nI j)]) rfl rfl rfl rfl ?_
    refine ax_get rfl (hh_283 _ _ _) rfl rfl rfl ?_
    show am_ex (d + 27) 139 177 [some (.ref 283), some (.int 21), some (.int (nI j)), some (.int 0), some (.int 1)] [.ref 20, .int (nI j)] (am_hh X (am_u (am_u (am_u (am_u (am_u S 283 2 0) 284 0 21) 283 2 1) 284 1 20) 283 2 2) L) _
    refine ax_get rfl (hh_20 _ _ _) rfl rfl rfl ?_
    show am_ex (d + 27) 139 180 [some (.ref 283), some (.int 21), some (.int (nI j)), some (.int 0), some (.int 1)] [.ref 27, .int (nI j)] (am_hh X (am_u (am_u (am_u (am_u (am_u S 283 2 0) 284 0 21) 283 2 1) 284 1 20) 283 2 2) L) _
    refine ax_s (pc' := 181) (st' := [.int (nI j), .ref 27, .int (nI j)]) rfl rfl rfl rfl ?_
    refine ax_ald (j := j) (v := (S 27 j)) rfl (hh_27 _ _ _) rfl rfl (x1 c1) (by decide) rfl ?_
    refine ax_s (pc' := 183) (st' := [.int ((nI j) + (S 27 j))]) rfl rfl rfl rfl ?_
    refine ax_r rfl rfl rfl ?_
    show am_ex (d + 28) 137 31 [some (.ref 283), some (.int (nI j)), some (.int 1), some (.int 0)] [.int ((nI j) + (S 27 j))] (am_hh X (am_u (am_u (am_u (am_u (am_u S 283 2 0) 284 0 21) 283 2 1) 284 1 20) 283 2 2) L) _
    refine ax_r rfl rfl rfl ?_
    show am_ex (d + 29) 238 12 [some (.ref 283), some (.int (nI j)), some (.int 1)] [.int ((nI j) + (S 27 j))] (am_hh X (am_u (am_u (am_u (am_u (am_u S 283 2 0) 284 0 21) 283 2 1) 284 1 20) 283 2 2) L) _
    refine ax_r rfl rfl rfl ?_
    show am_ex (d + 30) 136 32 [some (.ref 5), some (.int (nI j)), some (.int 1)] [.int ((nI j) + (S 27 j))] (am_hh X (am_u (am_u (am_u (am_u (am_u S 283 2 0) 284 0 21) 283 2 1) 284 1 20) 283 2 2) L) _
    refine ax_r rfl rfl rfl ?_
    exact k2 c1
theorem wm_ask_1_1 {d : Nat} {X : Nat × (Nat → Int32)} {S : Nat → Nat → Int32} {L : Nat → Int64} {j : Nat} {Q : Option Value → am_H → Prop} (hk : S 290 j = 1) (hj : j < 6)  (x1 : ¬ (nI j) < 0 ∧ ¬ (S 285 7) - 1 < (nI j) → j < 6) (x2 : ¬ (nI j) < 0 ∧ ¬ (S 285 7) - 1 < (nI j) → (27 + j) < 39) (k1 : ¬ (¬ (nI j) < 0 ∧ ¬ (S 285 7) - 1 < (nI j)) → Q (some (.int (-1000001))) (am_hh X S L)) (k2 : ¬ (nI j) < 0 ∧ ¬ (S 285 7) - 1 < (nI j) → Q (some (.int ((nI j) + (S 293 (27 + j))))) (am_hh X (am_u (am_u (am_u (am_u (am_u S 285 20 0) 299 0 21) 285 20 1) 299 1 20) 285 20 2) L)) : am_mt (d + 10) 224 [.ref 285, .int (nI j), .int 1] (am_hh X S L) Q := by
  refine ax_in (ls := [some (.ref 285), some (.int (nI j)), some (.int 1)]) rfl ?_
  refine ax_s (pc' := 1) (st' := [.ref 285]) rfl rfl rfl rfl ?_
  refine ax_s (pc' := 2) (st' := [.int (nI j), .ref 285]) rfl rfl rfl rfl ?_
  refine ax_call (vs := [.ref 285, .int (nI j)]) (rr := []) rfl rfl rfl ?_
  refine mt_isParty  ?_
  show am_ex (d + 10) 224 5 [some (.ref 285), some (.int (nI j)), some (.int 1)] [.int (bI (decide (¬ (nI j) < 0 ∧ ¬ (S 285 7) - 1 < (nI j))))] (am_hh X S L) _
  refine ax_pF rfl (fun c1 => ?_) (fun c1 => ?_)
  · refine ax_s (pc' := 19) (st' := [.int (-1000001)]) rfl rfl rfl rfl ?_
    refine ax_r rfl rfl rfl ?_
    exact k1 c1
  · refine ax_s (pc' := 9) (st' := [.int 1]) rfl rfl rfl rfl ?_
    refine ax_s (pc' := 10) (st' := [.int 0, .int 1]) rfl rfl rfl rfl ?_
    refine ax_s (pc' := 11) (st' := [.int 1, .int 0, .int 1]) rfl rfl rfl rfl ?_
    refine ax_call (vs := [.int 1, .int 0, .int 1]) (rr := []) rfl rfl rfl ?_
    refine mt_in ?_
    show am_ex (d + 10) 224 14 [some (.ref 285), some (.int (nI j)), some (.int 1)] [.int 1] (am_hh X S L) _
    refine ax_if_ne rfl (fun c2 => ?_) (fun c2 => False.elim (by revert c2; decide))
    refine ax_s (pc' := 21) (st' := [.ref 285]) rfl rfl rfl rfl ?_
    refine ax_s (pc' := 22) (st' := [.int 0, .ref 285]) rfl rfl rfl rfl ?_
    refine ax_put rfl (hh_285 _ _ _) rfl rfl (show 20 + 1 ≤ _ from Nat.le_of_ble_eq_true rfl) rfl (am_hh_set _ _ _ 285 20 _ rfl) ?_
    refine ax_s (pc' := 26) (st' := [.ref 285]) rfl rfl rfl rfl ?_
    refine ax_get rfl (hh_285 _ _ _) rfl rfl rfl ?_
    show am_ex (d + 10) 224 29 [some (.ref 285), some (.int (nI j)), some (.int 1)] [.ref 290] (am_hh X (am_u S 285 20 0) L) _
    refine ax_s (pc' := 30) (st' := [.int (nI j), .ref 290]) rfl rfl rfl rfl ?_
    refine ax_ald (j := j) (v := 1) rfl (hh_290 _ _ _) rfl rfl (x1 c1) (by decide) hk ?_
    refine ax_s (pc' := 32) (st' := [.int 4, .int 1]) rfl rfl rfl rfl ?_
    refine ax_cmp_ge rfl (fun c3 => False.elim (by revert c3; decide)) (fun c3 => ?_)
    refine ax_s (pc' := 36) (st' := [.int 1]) rfl rfl rfl rfl ?_
    refine ax_if_ne rfl (fun c4 => ?_) (fun c4 => False.elim (by revert c4; decide))
    refine ax_s (pc' := 48) (st' := [.ref 285]) rfl rfl rfl rfl ?_
    refine ax_s (pc' := 49) (st' := [.int (nI j), .ref 285]) rfl rfl rfl rfl ?_
    refine ax_call (vs := [.ref 285, .int (nI j)]) (rr := []) rfl rfl rfl ?_
    refine ax_in (ls := [some (.ref 285), some (.int (nI j))]) rfl ?_
    refine ax_s (pc' := 1) (st' := [.ref 285]) rfl rfl rfl rfl ?_
    refine ax_get rfl (hh_285 _ _ _) rfl rfl rfl ?_
    show am_ex (d + 9) 228 4 [some (.ref 285), some (.int (nI j))] [.ref 290] (am_hh X (am_u S 285 20 0) L) _
    refine ax_s (pc' := 5) (st' := [.int (nI j), .ref 290]) rfl rfl rfl rfl ?_
    refine ax_ald (j := j) (v := 1) rfl (hh_290 _ _ _) rfl rfl (x1 c1) (by decide) hk ?_
    refine ax_s (pc' := 7) (st' := [.int 3, .int 1]) rfl rfl rfl rfl ?_
    refine ax_cmp_ne rfl (fun c5 => ?_) (fun c5 => False.elim (by revert c5; decide))
    refine ax_s (pc' := 27) (st' := [.ref 285]) rfl rfl rfl rfl ?_
    refine ax_get rfl (hh_285 _ _ _) rfl rfl rfl ?_
    show am_ex (d + 9) 228 30 [some (.ref 285), some (.int (nI j))] [.ref 290] (am_hh X (am_u S 285 20 0) L) _
    refine ax_s (pc' := 31) (st' := [.int (nI j), .ref 290]) rfl rfl rfl rfl ?_
    refine ax_ald (j := j) (v := 1) rfl (hh_290 _ _ _) rfl rfl (x1 c1) (by decide) hk ?_
    refine ax_s (pc' := 33) (st' := [.int 2, .int 1]) rfl rfl rfl rfl ?_
    refine ax_cmp_ne rfl (fun c6 => ?_) (fun c6 => False.elim (by revert c6; decide))
    refine ax_s (pc' := 51) (st' := [.ref 285]) rfl rfl rfl rfl ?_
    refine ax_s (pc' := 52) (st' := [.int (nI j), .ref 285]) rfl rfl rfl rfl ?_
    refine ax_call (vs := [.ref 285, .int (nI j)]) (rr := []) rfl rfl rfl ?_
    refine ax_in (ls := [some (.ref 285), some (.int (nI j))]) rfl ?_
    refine ax_s (pc' := 1) (st' := [.ref 285]) rfl rfl rfl rfl ?_
    refine ax_s (pc' := 3) (st' := [.int 21, .ref 285]) rfl rfl rfl rfl ?_
    refine ax_call (vs := [.ref 285, .int 21]) (rr := []) rfl rfl rfl ?_
    refine ax_in (ls := [some (.ref 285), some (.int 21)]) rfl ?_
    refine ax_s (pc' := 1) (st' := [.ref 285]) rfl rfl rfl rfl ?_
    refine ax_get rfl (hh_285 _ _ _) rfl rfl rfl ?_
    show am_ex (d + 7) 226 4 [some (.ref 285), some (.int 21)] [.int 0] (am_hh X (am_u S 285 20 0) L) _
    refine ax_s (pc' := 6) (st' := [.int 16, .int 0]) rfl rfl rfl rfl ?_
    refine ax_cmp_ge rfl (fun c7 => False.elim (by revert c7; decide)) (fun c7 => ?_)
    refine ax_s (pc' := 10) (st' := [.ref 285]) rfl rfl rfl rfl ?_
    refine ax_get rfl (hh_285 _ _ _) rfl rfl rfl ?_
    show am_ex (d + 7) 226 13 [some (.ref 285), some (.int 21)] [.ref 299] (am_hh X (am_u S 285 20 0) L) _
    refine ax_s (pc' := 14) (st' := [.ref 285, .ref 299]) rfl rfl rfl rfl ?_
    refine ax_get rfl (hh_285 _ _ _) rfl rfl rfl ?_
    show am_ex (d + 7) 226 17 [some (.ref 285), some (.int 21)] [.int 0, .ref 299] (am_hh X (am_u S 285 20 0) L) _
    refine ax_s (pc' := 18) (st' := [.int 21, .int 0, .ref 299]) rfl rfl rfl rfl ?_
    refine ax_ast (j := 0) rfl (hh_299 _ _ _) rfl rfl (by decide) (by decide) (am_hh_set _ _ _ 299 0 _ rfl) ?_
    refine ax_s (pc' := 20) (st' := [.ref 285]) rfl rfl rfl rfl ?_
    refine ax_s (pc' := 21) (st' := [.ref 285, .ref 285]) rfl rfl rfl rfl ?_
    refine ax_get rfl (hh_285 _ _ _) rfl rfl rfl ?_
    show am_ex (d + 7) 226 24 [some (.ref 285), some (.int 21)] [.int 0, .ref 285] (am_hh X (am_u (am_u S 285 20 0) 299 0 21) L) _
    refine ax_s (pc' := 25) (st' := [.int 1, .int 0, .ref 285]) rfl rfl rfl rfl ?_
    refine ax_s (pc' := 26) (st' := [.int 1, .ref 285]) rfl rfl rfl rfl ?_
    refine ax_put rfl (hh_285 _ _ _) rfl rfl (show 20 + 1 ≤ _ from Nat.le_of_ble_eq_true rfl) rfl (am_hh_set _ _ _ 285 20 _ rfl) ?_
    refine ax_r rfl rfl rfl ?_
    show am_ex (d + 8) 229 6 [some (.ref 285), some (.int (nI j))] [] (am_hh X (am_u (am_u (am_u S 285 20 0) 299 0 21) 285 20 1) L) _
    refine ax_s (pc' := 7) (st' := [.ref 285]) rfl rfl rfl rfl ?_
    refine ax_s (pc' := 8) (st' := [.int (nI j), .ref 285]) rfl rfl rfl rfl ?_
    refine ax_call (vs := [.ref 285, .int (nI j)]) (rr := []) rfl rfl rfl ?_
    refine ax_in (ls := [some (.ref 285), some (.int (nI j))]) rfl ?_
    refine ax_s (pc' := 1) (st' := [.ref 285]) rfl rfl rfl rfl ?_
    refine ax_s (pc' := 3) (st' := [.int 20, .ref 285]) rfl rfl rfl rfl ?_
    refine ax_call (vs := [.ref 285, .int 20]) (rr := []) rfl rfl rfl ?_
    refine ax_in (ls := [some (.ref 285), some (.int 20)]) rfl ?_
    refine ax_s (pc' := 1) (st' := [.ref 285]) rfl rfl rfl rfl ?_
    refine ax_get rfl (hh_285 _ _ _) rfl rfl rfl ?_
    show am_ex (d + 6) 226 4 [some (.ref 285), some (.int 20)] [.int 1] (am_hh X (am_u (am_u (am_u S 285 20 0) 299 0 21) 285 20 1) L) _
    refine ax_s (pc' := 6) (st' := [.int 16, .int 1]) rfl rfl rfl rfl ?_
    refine ax_cmp_ge rfl (fun c8 => False.elim (by revert c8; decide)) (fun c8 => ?_)
    refine ax_s (pc' := 10) (st' := [.ref 285]) rfl rfl rfl rfl ?_
    refine ax_get rfl (hh_285 _ _ _) rfl rfl rfl ?_
    show am_ex (d + 6) 226 13 [some (.ref 285), some (.int 20)] [.ref 299] (am_hh X (am_u (am_u (am_u S 285 20 0) 299 0 21) 285 20 1) L) _
    refine ax_s (pc' := 14) (st' := [.ref 285, .ref 299]) rfl rfl rfl rfl ?_
    refine ax_get rfl (hh_285 _ _ _) rfl rfl rfl ?_
    show am_ex (d + 6) 226 17 [some (.ref 285), some (.int 20)] [.int 1, .ref 299] (am_hh X (am_u (am_u (am_u S 285 20 0) 299 0 21) 285 20 1) L) _
    refine ax_s (pc' := 18) (st' := [.int 20, .int 1, .ref 299]) rfl rfl rfl rfl ?_
    refine ax_ast (j := 1) rfl (hh_299 _ _ _) rfl rfl (by decide) (by decide) (am_hh_set _ _ _ 299 1 _ rfl) ?_
    refine ax_s (pc' := 20) (st' := [.ref 285]) rfl rfl rfl rfl ?_
    refine ax_s (pc' := 21) (st' := [.ref 285, .ref 285]) rfl rfl rfl rfl ?_
    refine ax_get rfl (hh_285 _ _ _) rfl rfl rfl ?_
    show am_ex (d + 6) 226 24 [some (.ref 285), some (.int 20)] [.int 1, .ref 285] (am_hh X (am_u (am_u (am_u (am_u S 285 20 0) 299 0 21) 285 20 1) 299 1 20) L) _
    refine ax_s (pc' := 25) (st' := [.int 1, .int 1, .ref 285]) rfl rfl rfl rfl ?_
    refine ax_s (pc' := 26) (st' := [.int 2, .ref 285]) rfl rfl rfl rfl ?_
    refine ax_put rfl (hh_285 _ _ _) rfl rfl (show 20 + 1 ≤ _ from Nat.le_of_ble_eq_true rfl) rfl (am_hh_set _ _ _ 285 20 _ rfl) ?_
    refine ax_r rfl rfl rfl ?_
    show am_ex (d + 7) 230 6 [some (.ref 285), some (.int (nI j))] [] (am_hh X (am_u (am_u (am_u (am_u (am_u S 285 20 0) 299 0 21) 285 20 1) 299 1 20) 285 20 2) L) _
    refine ax_s (pc' := 7) (st' := [.int (nI j)]) rfl rfl rfl rfl ?_
    refine ax_r rfl rfl rfl ?_
    show am_ex (d + 8) 229 11 [some (.ref 285), some (.int (nI j))] [.int (nI j)] (am_hh X (am_u (am_u (am_u (am_u (am_u S 285 20 0) 299 0 21) 285 20 1) 299 1 20) 285 20 2) L) _
    refine ax_s (pc' := 12) (st' := [.ref 285, .int (nI j)]) rfl rfl rfl rfl ?_
    refine ax_get rfl (hh_285 _ _ _) rfl rfl rfl ?_
    show am_ex (d + 8) 229 15 [some (.ref 285), some (.int (nI j))] [.ref 293, .int (nI j)] (am_hh X (am_u (am_u (am_u (am_u (am_u S 285 20 0) 299 0 21) 285 20 1) 299 1 20) 285 20 2) L) _
    refine ax_s (pc' := 17) (st' := [.int 27, .ref 293, .int (nI j)]) rfl rfl rfl rfl ?_
    refine ax_s (pc' := 18) (st' := [.int (nI j), .int 27, .ref 293, .int (nI j)]) rfl rfl rfl rfl ?_
    refine ax_s (pc' := 19) (st' := [.int (27 + (nI j)), .ref 293, .int (nI j)]) rfl rfl rfl rfl ?_
    refine ax_ald (j := (27 + j)) (v := (S 293 (27 + j))) rfl (hh_293 _ _ _) rfl (am_na (x := 27) (y := j) rfl rfl) (x2 c1) (by decide) rfl ?_
    refine ax_s (pc' := 21) (st' := [.int ((nI j) + (S 293 (27 + j)))]) rfl rfl rfl rfl ?_
    refine ax_r rfl rfl rfl ?_
    show am_ex (d + 9) 228 55 [some (.ref 285), some (.int (nI j))] [.int ((nI j) + (S 293 (27 + j)))] (am_hh X (am_u (am_u (am_u (am_u (am_u S 285 20 0) 299 0 21) 285 20 1) 299 1 20) 285 20 2) L) _
    refine ax_r rfl rfl rfl ?_
    show am_ex (d + 10) 224 52 [some (.ref 285), some (.int (nI j)), some (.int 1)] [.int ((nI j) + (S 293 (27 + j)))] (am_hh X (am_u (am_u (am_u (am_u (am_u S 285 20 0) 299 0 21) 285 20 1) 299 1 20) 285 20 2) L) _
    refine ax_r rfl rfl rfl ?_
    exact k2 c1
theorem wk_ask_2_0 {d : Nat} {X : Nat × (Nat → Int32)} {S : Nat → Nat → Int32} {L : Nat → Int64} {j : Nat} {Q : Option Value → am_H → Prop} (hk : S 22 j = 2) (hj : j < 6)  (x1 : ¬ (nI j) < 0 ∧ ¬ (S 20 4) ≤ (nI j) → j < 6) (k1 : ¬ (¬ (nI j) < 0 ∧ ¬ (S 20 4) ≤ (nI j)) → Q (some (.int (-1000001))) (am_hh X S L)) (k2 : ¬ (nI j) < 0 ∧ ¬ (S 20 4) ≤ (nI j) → Q (some (.int (0 - ((S 23 j) + (2 * ((nI j) + (S 27 j))))))) (am_hh X (am_u (am_u (am_u (am_u (am_u (am_u (am_u (am_u (am_u (am_u (am_u (am_u (am_u S 283 2 0) 284 0 12) 283 2 1) 284 1 11) 283 2 2) 284 2 10) 283 2 3) 284 3 24) 283 2 4) 284 4 21) 283 2 5) 284 5 20) 283 2 6) L)) : am_mt (d + 30) 136 [.ref 5, .int (nI j), .int 0] (am_hh X S L) Q := by
  refine ax_in (ls := [some (.ref 5), some (.int (nI j)), some (.int 0)]) rfl ?_
  refine ax_s (pc' := 1) (st' := [.ref 5]) rfl rfl rfl rfl ?_
  refine ax_get rfl (hh_5 _ _ _) rfl rfl rfl ?_
  show am_ex (d + 30) 136 4 [some (.ref 5), some (.int (nI j)), some (.int 0)] [.ref 20] (am_hh X S L) _
  refine ax_s (pc' := 5) (st' := [.int (nI j), .ref 20]) rfl rfl rfl rfl ?_
  refine ax_call (vs := [.ref 20, .int (nI j)]) (rr := []) rfl rfl rfl ?_
  refine kw (am_hh_sub isW20 X S L) (am_hh_sub isW20 X S L).symm (fun _ => ct_hasParty (am_isW_k isW20 X S L)) ?_
  show am_ex (d + 30) 136 8 [some (.ref 5), some (.int (nI j)), some (.int 0)] [.int (bI (decide (¬ (nI j) < 0 ∧ ¬ (S 20 4) ≤ (nI j))))] (am_hh X S L) _
  refine ax_pF rfl (fun c1 => ?_) (fun c1 => ?_)
  · refine ax_s (pc' := 22) (st' := [.int (-1000001)]) rfl rfl rfl rfl ?_
    refine ax_r rfl rfl rfl ?_
    exact k1 c1
  · refine ax_s (pc' := 12) (st' := [.int 0]) rfl rfl rfl rfl ?_
    refine ax_s (pc' := 13) (st' := [.int 0, .int 0]) rfl rfl rfl rfl ?_
    refine ax_s (pc' := 14) (st' := [.int 1, .int 0, .int 0]) rfl rfl rfl rfl ?_
    refine ax_call (vs := [.int 0, .int 0, .int 1]) (rr := []) rfl rfl rfl ?_
    refine ct_isOutside ?_
    show am_ex (d + 30) 136 17 [some (.ref 5), some (.int (nI j)), some (.int 0)] [.int 0] (am_hh X S L) _
    refine ax_if_eq rfl (fun c2 => ?_) (fun c2 => False.elim (by revert c2; decide))
    refine ax_s (pc' := 24) (st' := [.ref 5]) rfl rfl rfl rfl ?_
    refine ax_get rfl (hh_5 _ _ _) rfl rfl rfl ?_
    show am_ex (d + 30) 136 27 [some (.ref 5), some (.int (nI j)), some (.int 0)] [.ref 283] (am_hh X S L) _
    refine ax_s (pc' := 28) (st' := [.int (nI j), .ref 283]) rfl rfl rfl rfl ?_
    refine ax_s (pc' := 29) (st' := [.int 0, .int (nI j), .ref 283]) rfl rfl rfl rfl ?_
    refine ax_call (vs := [.ref 283, .int (nI j), .int 0]) (rr := []) rfl rfl rfl ?_
    refine ax_in (ls := [some (.ref 283), some (.int (nI j)), some (.int 0)]) rfl ?_
    refine ax_s (pc' := 1) (st' := [.ref 283]) rfl rfl rfl rfl ?_
    refine ax_s (pc' := 2) (st' := [.int 0, .ref 283]) rfl rfl rfl rfl ?_
    refine ax_put rfl (hh_283 _ _ _) rfl rfl (show 2 + 1 ≤ _ from Nat.le_of_ble_eq_true rfl) rfl (am_hh_set _ _ _ 283 2 _ rfl) ?_
    refine ax_s (pc' := 6) (st' := [.ref 283]) rfl rfl rfl rfl ?_
    refine ax_s (pc' := 7) (st' := [.int (nI j), .ref 283]) rfl rfl rfl rfl ?_
    refine ax_s (pc' := 8) (st' := [.int 0, .int (nI j), .ref 283]) rfl rfl rfl rfl ?_
    refine ax_s (pc' := 9) (st' := [.int 0, .int 0, .int (nI j), .ref 283]) rfl rfl rfl rfl ?_
    refine ax_call (vs := [.ref 283, .int (nI j), .int 0, .int 0]) (rr := []) rfl rfl rfl ?_
    refine ax_in (ls := [some (.ref 283), some (.int (nI j)), some (.int 0), some (.int 0)]) rfl ?_
    refine ax_s (pc' := 1) (st' := [.ref 283]) rfl rfl rfl rfl ?_
    refine ax_s (pc' := 2) (st' := [.ref 283, .ref 283]) rfl rfl rfl rfl ?_
    refine ax_get rfl (hh_283 _ _ _) rfl rfl rfl ?_
    show am_ex (d + 28) 137 5 [some (.ref 283), some (.int (nI j)), some (.int 0), some (.int 0)] [.ref 20, .ref 283] (am_hh X (am_u S 283 2 0) L) _
    refine ax_get rfl (hh_20 _ _ _) rfl rfl rfl ?_
    show am_ex (d + 28) 137 8 [some (.ref 283), some (.int (nI j)), some (.int 0), some (.int 0)] [.ref 22, .ref 283] (am_hh X (am_u S 283 2 0) L) _
    refine ax_s (pc' := 9) (st' := [.int (nI j), .ref 22, .ref 283]) rfl rfl rfl rfl ?_
    refine ax_ald (j := j) (v := 2) rfl (hh_22 _ _ _) rfl rfl (x1 c1) (by decide) hk ?_
    refine ax_s (pc' := 11) (st' := [.int 0, .int 2, .ref 283]) rfl rfl rfl rfl ?_
    refine ax_if_ne rfl (fun c3 => False.elim (by revert c3; decide)) (fun c3 => ?_)
    refine ax_s (pc' := 17) (st' := [.ref 3, .int 2, .ref 283]) rfl rfl rfl rfl ?_
    refine ax_s (pc' := 23) (st' := [.ref 3, .int 2, .ref 283]) rfl rfl rfl rfl ?_
    refine ax_call (vs := [.int 2, .ref 3]) (rr := [.ref 283]) rfl rfl rfl ?_
    refine ax_in (ls := [some (.int 2), some (.ref 3), none, none]) rfl ?_
    refine ax_s (pc' := 1) (st' := [.int 2]) rfl rfl rfl rfl ?_
    refine ax_s (pc' := 2) (ls' := [some (.int 2), some (.ref 3), some (.int 2), none]) (st' := []) rfl rfl rfl rfl ?_
    refine ax_s (pc' := 3) (st' := [.int 0]) rfl rfl rfl rfl ?_
    refine ax_s (pc' := 4) (ls' := [some (.int 2), some (.ref 3), some (.int 2), some (.int 0)]) (st' := []) rfl rfl rfl rfl ?_
    refine ax_s (pc' := 5) (st' := [.int 0]) rfl rfl rfl rfl ?_
    refine ax_s (pc' := 6) (st' := [.int 5, .int 0]) rfl rfl rfl rfl ?_
    refine ax_cmp_gt rfl (fun c4 => False.elim (by revert c4; decide)) (fun c4 => ?_)
    refine ax_s (pc' := 10) (st' := [.int 2]) rfl rfl rfl rfl ?_
    refine ax_call (vs := [.int 2]) (rr := []) rfl rfl rfl ?_
    refine ax_in (ls := [some (.int 2)]) rfl ?_
    refine ax_s (pc' := 1) (st' := [.int 2]) rfl rfl rfl rfl ?_
    refine ax_if_lt rfl (fun c5 => False.elim (by revert c5; decide)) (fun c5 => ?_)
    refine ax_s (pc' := 5) (st' := [.int 2]) rfl rfl rfl rfl ?_
    refine ax_s (pc' := 6) (st' := [.int 5, .int 2]) rfl rfl rfl rfl ?_
    refine ax_cmp_gt rfl (fun c6 => False.elim (by revert c6; decide)) (fun c6 => ?_)
    refine ax_s (pc' := 10) (st' := [.int 1]) rfl rfl rfl rfl ?_
    refine ax_s (pc' := 14) (st' := [.int 1]) rfl rfl rfl rfl ?_
    refine ax_rb (b := true) rfl rfl ?_
    show am_ex (d + 27) 138 13 [some (.int 2), some (.ref 3), some (.int 2), some (.int 0)] [.int 1] (am_hh X (am_u S 283 2 0) L) _
    refine ax_if_eq rfl (fun c7 => False.elim (by revert c7; decide)) (fun c7 => ?_)
    refine ax_s (pc' := 17) (st' := [.ref 3]) rfl rfl rfl rfl ?_
    refine ax_s (pc' := 18) (st' := [.int 2, .ref 3]) rfl rfl rfl rfl ?_
    refine ax_ald (j := 2) (v := 12) rfl (hh_s3 _ _ _) rfl rfl (by decide) (by decide) rfl ?_
    refine ax_s (pc' := 21) (st' := [.int (-1000000), .int 12]) rfl rfl rfl rfl ?_
    refine ax_cmp_eq rfl (fun c8 => False.elim (by revert c8; decide)) (fun c8 => ?_)
    refine ax_s (pc' := 25) (st' := [.ref 3]) rfl rfl rfl rfl ?_
    refine ax_s (pc' := 26) (st' := [.int 2, .ref 3]) rfl rfl rfl rfl ?_
    refine ax_ald (j := 2) (v := 12) rfl (hh_s3 _ _ _) rfl rfl (by decide) (by decide) rfl ?_
    refine ax_r rfl rfl rfl ?_
    show am_ex (d + 28) 137 26 [some (.ref 283), some (.int (nI j)), some (.int 0), some (.int 0)] [.int 12, .ref 283] (am_hh X (am_u S 283 2 0) L) _
    refine ax_s (pc' := 27) (st' := [.int (nI j), .int 12, .ref 283]) rfl rfl rfl rfl ?_
    refine ax_s (pc' := 28) (st' := [.int 0, .int (nI j), .int 12, .ref 283]) rfl rfl rfl rfl ?_
    refine ax_call (vs := [.ref 283, .int 12, .int (nI j), .int 0]) (rr := []) rfl rfl rfl ?_
    refine ax_in (ls := [some (.ref 283), some (.int 12), some (.int (nI j)), some (.int 0), none]) rfl ?_
    refine ax_s (pc' := 1) (st' := [.int 0]) rfl rfl rfl rfl ?_
    refine ax_s (pc' := 3) (st' := [.int 16, .int 0]) rfl rfl rfl rfl ?_
    refine ax_cmp_le rfl (fun c9 => ?_) (fun c9 => False.elim (by revert c9; decide))
    refine ax_s (pc' := 10) (st' := [.ref 283]) rfl rfl rfl rfl ?_
    refine ax_s (pc' := 11) (st' := [.int 12, .ref 283]) rfl rfl rfl rfl ?_
    refine ax_call (vs := [.ref 283, .int 12]) (rr := []) rfl rfl rfl ?_
    refine ax_in (ls := [some (.ref 283), some (.int 12)]) rfl ?_
    refine ax_s (pc' := 1) (st' := [.ref 283]) rfl rfl rfl rfl ?_
    refine ax_get rfl (hh_283 _ _ _) rfl rfl rfl ?_
    show am_ex (d + 26) 140 4 [some (.ref 283), some (.int 12)] [.int 0] (am_hh X (am_u S 283 2 0) L) _
    refine ax_if_lt rfl (fun c10 => False.elim (by revert c10; decide)) (fun c10 => ?_)
    refine ax_s (pc' := 8) (st' := [.ref 283]) rfl rfl rfl rfl ?_
    refine ax_get rfl (hh_283 _ _ _) rfl rfl rfl ?_
    show am_ex (d + 26) 140 11 [some (.ref 283), some (.int 12)] [.int 0] (am_hh X (am_u S 283 2 0) L) _
    refine ax_s (pc' := 13) (st' := [.int 16, .int 0]) rfl rfl rfl rfl ?_
    refine ax_cmp_ge rfl (fun c11 => False.elim (by revert c11; decide)) (fun c11 => ?_)
    refine ax_s (pc' := 17) (st' := [.ref 283]) rfl rfl rfl rfl ?_
    refine ax_get rfl (hh_283 _ _ _) rfl rfl rfl ?_
    show am_ex (d + 26) 140 20 [some (.ref 283), some (.int 12)] [.ref 284] (am_hh X (am_u S 283 2 0) L) _
    refine ax_s (pc' := 21) (st' := [.ref 283, .ref 284]) rfl rfl rfl rfl ?_
    refine ax_get rfl (hh_283 _ _ _) rfl rfl rfl ?_
    show am_ex (d + 26) 140 24 [some (.ref 283), some (.int 12)] [.int 0, .ref 284] (am_hh X (am_u S 283 2 0) L) _
    refine ax_s (pc' := 25) (st' := [.int 12, .int 0, .ref 284]) rfl rfl rfl rfl ?_
    refine ax_ast (j := 0) rfl (hh_284 _ _ _) rfl rfl (by decide) (by decide) (am_hh_set _ _ _ 284 0 _ rfl) ?_
    refine ax_s (pc' := 27) (st' := [.ref 283]) rfl rfl rfl rfl ?_
    refine ax_s (pc' := 28) (st' := [.ref 283, .ref 283]) rfl rfl rfl rfl ?_
    refine ax_get rfl (hh_283 _ _ _) rfl rfl rfl ?_
    show am_ex (d + 26) 140 31 [some (.ref 283), some (.int 12)] [.int 0, .ref 283] (am_hh X (am_u (am_u S 283 2 0) 284 0 12) L) _
    refine ax_s (pc' := 32) (st' := [.int 1, .int 0, .ref 283]) rfl rfl rfl rfl ?_
    refine ax_s (pc' := 33) (st' := [.int 1, .ref 283]) rfl rfl rfl rfl ?_
    refine ax_put rfl (hh_283 _ _ _) rfl rfl (show 2 + 1 ≤ _ from Nat.le_of_ble_eq_true rfl) rfl (am_hh_set _ _ _ 283 2 _ rfl) ?_
    refine ax_r rfl rfl rfl ?_
    show am_ex (d + 27) 139 14 [some (.ref 283), some (.int 12), some (.int (nI j)), some (.int 0), none] [] (am_hh X (am_u (am_u (am_u S 283 2 0) 284 0 12) 283 2 1) L) _
    refine ax_s (pc' := 15) (st' := [.int 0]) rfl rfl rfl rfl ?_
    refine ax_s (pc' := 16) (st' := [.int 1, .int 0]) rfl rfl rfl rfl ?_
    refine ax_s (pc' := 17) (st' := [.int 1]) rfl rfl rfl rfl ?_
    refine ax_s (pc' := 19) (ls' := [some (.ref 283), some (.int 12), some (.int (nI j)), some (.int 0), some (.int 1)]) (st' := []) rfl rfl rfl rfl ?_
    refine ax_s (pc' := 20) (st' := [.int 12]) rfl rfl rfl rfl ?_
    refine ax_s (pc' := 125) (ls' := [some (.ref 283), some (.int 12), some (.int (nI j)), some (.int 0), some (.int 1)]) (st' := []) (h1 := (am_hh X (am_u (am_u (am_u S 283 2 0) 284 0 12) 283 2 1) L)) rfl rfl rfl rfl ?_
    refine ax_s (pc' := 126) (st' := [.int 0]) rfl rfl rfl rfl ?_
    refine ax_s (pc' := 127) (st' := [.ref 283, .int 0]) rfl rfl rfl rfl ?_
    refine ax_s (pc' := 129) (st' := [.int 11, .ref 283, .int 0]) rfl rfl rfl rfl ?_
    refine ax_s (pc' := 130) (st' := [.int (nI j), .int 11, .ref 283, .int 0]) rfl rfl rfl rfl ?_
    refine ax_s (pc' := 132) (st' := [.int 1, .int (nI j), .int 11, .ref 283, .int 0]) rfl rfl rfl rfl ?_
    refine ax_call (vs := [.ref 283, .int 11, .int (nI j), .int 1]) (rr := [.int 0]) rfl rfl rfl ?_
    refine ax_in (ls := [some (.ref 283), some (.int 11), some (.int (nI j)), some (.int 1), none]) rfl ?_
    refine ax_s (pc' := 1) (st' := [.int 1]) rfl rfl rfl rfl ?_
    refine ax_s (pc' := 3) (st' := [.int 16, .int 1]) rfl rfl rfl rfl ?_
    refine ax_cmp_le rfl (fun c12 => ?_) (fun c12 => False.elim (by revert c12; decide))
    refine ax_s (pc' := 10) (st' := [.ref 283]) rfl rfl rfl rfl ?_
    refine ax_s (pc' := 11) (st' := [.int 11, .ref 283]) rfl rfl rfl rfl ?_
    refine ax_call (vs := [.ref 283, .int 11]) (rr := []) rfl rfl rfl ?_
    refine ax_in (ls := [some (.ref 283), some (.int 11)]) rfl ?_
    refine ax_s (pc' := 1) (st' := [.ref 283]) rfl rfl rfl rfl ?_
    refine ax_get rfl (hh_283 _ _ _) rfl rfl rfl ?_
    show am_ex (d + 25) 140 4 [some (.ref 283), some (.int 11)] [.int 1] (am_hh X (am_u (am_u (am_u S 283 2 0) 284 0 12) 283 2 1) L) _
    refine ax_if_lt rfl (fun c13 => False.elim (by revert c13; decide)) (fun c13 => ?_)
    refine ax_s (pc' := 8) (st' := [.ref 283]) rfl rfl rfl rfl ?_
    refine ax_get rfl (hh_283 _ _ _) rfl rfl rfl ?_
    show am_ex (d + 25) 140 11 [some (.ref 283), some (.int 11)] [.int 1] (am_hh X (am_u (am_u (am_u S 283 2 0) 284 0 12) 283 2 1) L) _
    refine ax_s (pc' := 13) (st' := [.int 16, .int 1]) rfl rfl rfl rfl ?_
    refine ax_cmp_ge rfl (fun c14 => False.elim (by revert c14; decide)) (fun c14 => ?_)
    refine ax_s (pc' := 17) (st' := [.ref 283]) rfl rfl rfl rfl ?_
    refine ax_get rfl (hh_283 _ _ _) rfl rfl rfl ?_
    show am_ex (d + 25) 140 20 [some (.ref 283), some (.int 11)] [.ref 284] (am_hh X (am_u (am_u (am_u S 283 2 0) 284 0 12) 283 2 1) L) _
    refine ax_s (pc' := 21) (st' := [.ref 283, .ref 284]) rfl rfl rfl rfl ?_
    refine ax_get rfl (hh_283 _ _ _) rfl rfl rfl ?_
    show am_ex (d + 25) 140 24 [some (.ref 283), some (.int 11)] [.int 1, .ref 284] (am_hh X (am_u (am_u (am_u S 283 2 0) 284 0 12) 283 2 1) L) _
    refine ax_s (pc' := 25) (st' := [.int 11, .int 1, .ref 284]) rfl rfl rfl rfl ?_
    refine ax_ast (j := 1) rfl (hh_284 _ _ _) rfl rfl (by decide) (by decide) (am_hh_set _ _ _ 284 1 _ rfl) ?_
    refine ax_s (pc' := 27) (st' := [.ref 283]) rfl rfl rfl rfl ?_
    refine ax_s (pc' := 28) (st' := [.ref 283, .ref 283]) rfl rfl rfl rfl ?_
    refine ax_get rfl (hh_283 _ _ _) rfl rfl rfl ?_
    show am_ex (d + 25) 140 31 [some (.ref 283), some (.int 11)] [.int 1, .ref 283] (am_hh X (am_u (am_u (am_u (am_u S 283 2 0) 284 0 12) 283 2 1) 284 1 11) L) _
    refine ax_s (pc' := 32) (st' := [.int 1, .int 1, .ref 283]) rfl rfl rfl rfl ?_
    refine ax_s (pc' := 33) (st' := [.int 2, .ref 283]) rfl rfl rfl rfl ?_
    refine ax_put rfl (hh_283 _ _ _) rfl rfl (show 2 + 1 ≤ _ from Nat.le_of_ble_eq_true rfl) rfl (am_hh_set _ _ _ 283 2 _ rfl) ?_
    refine ax_r rfl rfl rfl ?_
    show am_ex (d + 26) 139 14 [some (.ref 283), some (.int 11), some (.int (nI j)), some (.int 1), none] [] (am_hh X (am_u (am_u (am_u (am_u (am_u S 283 2 0) 284 0 12) 283 2 1) 284 1 11) 283 2 2) L) _
    refine ax_s (pc' := 15) (st' := [.int 1]) rfl rfl rfl rfl ?_
    refine ax_s (pc' := 16) (st' := [.int 1, .int 1]) rfl rfl rfl rfl ?_
    refine ax_s (pc' := 17) (st' := [.int 2]) rfl rfl rfl rfl ?_
    refine ax_s (pc' := 19) (ls' := [some (.ref 283), some (.int 11), some (.int (nI j)), some (.int 1), some (.int 2)]) (st' := []) rfl rfl rfl rfl ?_
    refine ax_s (pc' := 20) (st' := [.int 11]) rfl rfl rfl rfl ?_
    refine ax_s (pc' := 106) (ls' := [some (.ref 283), some (.int 11), some (.int (nI j)), some (.int 1), some (.int 2)]) (st' := []) (h1 := (am_hh X (am_u (am_u (am_u (am_u (am_u S 283 2 0) 284 0 12) 283 2 1) 284 1 11) 283 2 2) L)) rfl rfl rfl rfl ?_
    refine ax_s (pc' := 107) (st' := [.ref 283]) rfl rfl rfl rfl ?_
    refine ax_s (pc' := 109) (st' := [.int 10, .ref 283]) rfl rfl rfl rfl ?_
    refine ax_s (pc' := 110) (st' := [.int (nI j), .int 10, .ref 283]) rfl rfl rfl rfl ?_
    refine ax_s (pc' := 112) (st' := [.int 2, .int (nI j), .int 10, .ref 283]) rfl rfl rfl rfl ?_
    refine ax_call (vs := [.ref 283, .int 10, .int (nI j), .int 2]) (rr := []) rfl rfl rfl ?_
    refine ax_in (ls := [some (.ref 283), some (.int 10), some (.int (nI j)), some (.int 2), none]) rfl ?_
    refine ax_s (pc' := 1) (st' := [.int 2]) rfl rfl rfl rfl ?_
    refine ax_s (pc' := 3) (st' := [.int 16, .int 2]) rfl rfl rfl rfl ?_
    refine ax_cmp_le rfl (fun c15 => ?_) (fun c15 => False.elim (by revert c15; decide))
    refine ax_s (pc' := 10) (st' := [.ref 283]) rfl rfl rfl rfl ?_
    refine ax_s (pc' := 11) (st' := [.int 10, .ref 283]) rfl rfl rfl rfl ?_
    refine ax_call (vs := [.ref 283, .int 10]) (rr := []) rfl rfl rfl ?_
    refine ax_in (ls := [some (.ref 283), some (.int 10)]) rfl ?_
    refine ax_s (pc' := 1) (st' := [.ref 283]) rfl rfl rfl rfl ?_
    refine ax_get rfl (hh_283 _ _ _) rfl rfl rfl ?_
    show am_ex (d + 24) 140 4 [some (.ref 283), some (.int 10)] [.int 2] (am_hh X (am_u (am_u (am_u (am_u (am_u S 283 2 0) 284 0 12) 283 2 1) 284 1 11) 283 2 2) L) _
    refine ax_if_lt rfl (fun c16 => False.elim (by revert c16; decide)) (fun c16 => ?_)
    refine ax_s (pc' := 8) (st' := [.ref 283]) rfl rfl rfl rfl ?_
    refine ax_get rfl (hh_283 _ _ _) rfl rfl rfl ?_
    show am_ex (d + 24) 140 11 [some (.ref 283), some (.int 10)] [.int 2] (am_hh X (am_u (am_u (am_u (am_u (am_u S 283 2 0) 284 0 12) 283 2 1) 284 1 11) 283 2 2) L) _
    refine ax_s (pc' := 13) (st' := [.int 16, .int 2]) rfl rfl rfl rfl ?_
    refine ax_cmp_ge rfl (fun c17 => False.elim (by revert c17; decide)) (fun c17 => ?_)
    refine ax_s (pc' := 17) (st' := [.ref 283]) rfl rfl rfl rfl ?_
    refine ax_get rfl (hh_283 _ _ _) rfl rfl rfl ?_
    show am_ex (d + 24) 140 20 [some (.ref 283), some (.int 10)] [.ref 284] (am_hh X (am_u (am_u (am_u (am_u (am_u S 283 2 0) 284 0 12) 283 2 1) 284 1 11) 283 2 2) L) _
    refine ax_s (pc' := 21) (st' := [.ref 283, .ref 284]) rfl rfl rfl rfl ?_
    refine ax_get rfl (hh_283 _ _ _) rfl rfl rfl ?_
    show am_ex (d + 24) 140 24 [some (.ref 283), some (.int 10)] [.int 2, .ref 284] (am_hh X (am_u (am_u (am_u (am_u (am_u S 283 2 0) 284 0 12) 283 2 1) 284 1 11) 283 2 2) L) _
    refine ax_s (pc' := 25) (st' := [.int 10, .int 2, .ref 284]) rfl rfl rfl rfl ?_
    refine ax_ast (j := 2) rfl (hh_284 _ _ _) rfl rfl (by decide) (by decide) (am_hh_set _ _ _ 284 2 _ rfl) ?_
    refine ax_s (pc' := 27) (st' := [.ref 283]) rfl rfl rfl rfl ?_
    refine ax_s (pc' := 28) (st' := [.ref 283, .ref 283]) rfl rfl rfl rfl ?_
    refine ax_get rfl (hh_283 _ _ _) rfl rfl rfl ?_
    show am_ex (d + 24) 140 31 [some (.ref 283), some (.int 10)] [.int 2, .ref 283] (am_hh X (am_u (am_u (am_u (am_u (am_u (am_u S 283 2 0) 284 0 12) 283 2 1) 284 1 11) 283 2 2) 284 2 10) L) _
    refine ax_s (pc' := 32) (st' := [.int 1, .int 2, .ref 283]) rfl rfl rfl rfl ?_
    refine ax_s (pc' := 33) (st' := [.int 3, .ref 283]) rfl rfl rfl rfl ?_
    refine ax_put rfl (hh_283 _ _ _) rfl rfl (show 2 + 1 ≤ _ from Nat.le_of_ble_eq_true rfl) rfl (am_hh_set _ _ _ 283 2 _ rfl) ?_
    refine ax_r rfl rfl rfl ?_
    show am_ex (d + 25) 139 14 [some (.ref 283), some (.int 10), some (.int (nI j)), some (.int 2), none] [] (am_hh X (am_u (am_u (am_u (am_u (am_u (am_u (am_u S 283 2 0) 284 0 12) 283 2 1) 284 1 11) 283 2 2) 284 2 10) 283 2 3) L) _
    refine ax_s (pc' := 15) (st' := [.int 2]) rfl rfl rfl rfl ?_
    refine ax_s (pc' := 16) (st' := [.int 1, .int 2]) rfl rfl rfl rfl ?_
    refine ax_s (pc' := 17) (st' := [.int 3]) rfl rfl rfl rfl ?_
    refine ax_s (pc' := 19) (ls' := [some (.ref 283), some (.int 10), some (.int (nI j)), some (.int 2), some (.int 3)]) (st' := []) rfl rfl rfl rfl ?_
    refine ax_s (pc' := 20) (st' := [.int 10]) rfl rfl rfl rfl ?_
    refine ax_s (pc' := 96) (ls' := [some (.ref 283), some (.int 10), some (.int (nI j)), some (.int 2), some (.int 3)]) (st' := []) (h1 := (am_hh X (am_u (am_u (am_u (am_u (am_u (am_u (am_u S 283 2 0) 284 0 12) 283 2 1) 284 1 11) 283 2 2) 284 2 10) 283 2 3) L)) rfl rfl rfl rfl ?_
    refine ax_s (pc' := 97) (st' := [.ref 283]) rfl rfl rfl rfl ?_
    refine ax_get rfl (hh_283 _ _ _) rfl rfl rfl ?_
    show am_ex (d + 25) 139 100 [some (.ref 283), some (.int 10), some (.int (nI j)), some (.int 2), some (.int 3)] [.ref 20] (am_hh X (am_u (am_u (am_u (am_u (am_u (am_u (am_u S 283 2 0) 284 0 12) 283 2 1) 284 1 11) 283 2 2) 284 2 10) 283 2 3) L) _
    refine ax_get rfl (hh_20 _ _ _) rfl rfl rfl ?_
    show am_ex (d + 25) 139 103 [some (.ref 283), some (.int 10), some (.int (nI j)), some (.int 2), some (.int 3)] [.ref 23] (am_hh X (am_u (am_u (am_u (am_u (am_u (am_u (am_u S 283 2 0) 284 0 12) 283 2 1) 284 1 11) 283 2 2) 284 2 10) 283 2 3) L) _
    refine ax_s (pc' := 104) (st' := [.int (nI j), .ref 23]) rfl rfl rfl rfl ?_
    refine ax_ald (j := j) (v := (S 23 j)) rfl (hh_23 _ _ _) rfl rfl (x1 c1) (by decide) rfl ?_
    refine ax_r rfl rfl rfl ?_
    show am_ex (d + 26) 139 115 [some (.ref 283), some (.int 11), some (.int (nI j)), some (.int 1), some (.int 2)] [.int (S 23 j)] (am_hh X (am_u (am_u (am_u (am_u (am_u (am_u (am_u S 283 2 0) 284 0 12) 283 2 1) 284 1 11) 283 2 2) 284 2 10) 283 2 3) L) _
    refine ax_s (pc' := 116) (st' := [.ref 283, .int (S 23 j)]) rfl rfl rfl rfl ?_
    refine ax_s (pc' := 117) (st' := [.int (nI j), .ref 283, .int (S 23 j)]) rfl rfl rfl rfl ?_
    refine ax_s (pc' := 118) (st' := [.int 1, .int (nI j), .ref 283, .int (S 23 j)]) rfl rfl rfl rfl ?_
    refine ax_s (pc' := 120) (st' := [.int 2, .int 1, .int (nI j), .ref 283, .int (S 23 j)]) rfl rfl rfl rfl ?_
    refine ax_call (vs := [.ref 283, .int (nI j), .int 1, .int 2]) (rr := [.int (S 23 j)]) rfl rfl rfl ?_
    refine ax_in (ls := [some (.ref 283), some (.int (nI j)), some (.int 1), some (.int 2)]) rfl ?_
    refine ax_s (pc' := 1) (st' := [.ref 283]) rfl rfl rfl rfl ?_
    refine ax_s (pc' := 2) (st' := [.ref 283, .ref 283]) rfl rfl rfl rfl ?_
    refine ax_get rfl (hh_283 _ _ _) rfl rfl rfl ?_
    show am_ex (d + 25) 137 5 [some (.ref 283), some (.int (nI j)), some (.int 1), some (.int 2)] [.ref 20, .ref 283] (am_hh X (am_u (am_u (am_u (am_u (am_u (am_u (am_u S 283 2 0) 284 0 12) 283 2 1) 284 1 11) 283 2 2) 284 2 10) 283 2 3) L) _
    refine ax_get rfl (hh_20 _ _ _) rfl rfl rfl ?_
    show am_ex (d + 25) 137 8 [some (.ref 283), some (.int (nI j)), some (.int 1), some (.int 2)] [.ref 22, .ref 283] (am_hh X (am_u (am_u (am_u (am_u (am_u (am_u (am_u S 283 2 0) 284 0 12) 283 2 1) 284 1 11) 283 2 2) 284 2 10) 283 2 3) L) _
    refine ax_s (pc' := 9) (st' := [.int (nI j), .ref 22, .ref 283]) rfl rfl rfl rfl ?_
    refine ax_ald (j := j) (v := 2) rfl (hh_22 _ _ _) rfl rfl (x1 c1) (by decide) hk ?_
    refine ax_s (pc' := 11) (st' := [.int 1, .int 2, .ref 283]) rfl rfl rfl rfl ?_
    refine ax_if_ne rfl (fun c18 => ?_) (fun c18 => False.elim (by revert c18; decide))
    refine ax_s (pc' := 23) (st' := [.ref 4, .int 2, .ref 283]) rfl rfl rfl rfl ?_
    refine ax_call (vs := [.int 2, .ref 4]) (rr := [.ref 283]) rfl rfl rfl ?_
    refine ax_in (ls := [some (.int 2), some (.ref 4), none, none]) rfl ?_
    refine ax_s (pc' := 1) (st' := [.int 2]) rfl rfl rfl rfl ?_
    refine ax_s (pc' := 2) (ls' := [some (.int 2), some (.ref 4), some (.int 2), none]) (st' := []) rfl rfl rfl rfl ?_
    refine ax_s (pc' := 3) (st' := [.int 0]) rfl rfl rfl rfl ?_
    refine ax_s (pc' := 4) (ls' := [some (.int 2), some (.ref 4), some (.int 2), some (.int 0)]) (st' := []) rfl rfl rfl rfl ?_
    refine ax_s (pc' := 5) (st' := [.int 0]) rfl rfl rfl rfl ?_
    refine ax_s (pc' := 6) (st' := [.int 5, .int 0]) rfl rfl rfl rfl ?_
    refine ax_cmp_gt rfl (fun c19 => False.elim (by revert c19; decide)) (fun c19 => ?_)
    refine ax_s (pc' := 10) (st' := [.int 2]) rfl rfl rfl rfl ?_
    refine ax_call (vs := [.int 2]) (rr := []) rfl rfl rfl ?_
    refine ax_in (ls := [some (.int 2)]) rfl ?_
    refine ax_s (pc' := 1) (st' := [.int 2]) rfl rfl rfl rfl ?_
    refine ax_if_lt rfl (fun c20 => False.elim (by revert c20; decide)) (fun c20 => ?_)
    refine ax_s (pc' := 5) (st' := [.int 2]) rfl rfl rfl rfl ?_
    refine ax_s (pc' := 6) (st' := [.int 5, .int 2]) rfl rfl rfl rfl ?_
    refine ax_cmp_gt rfl (fun c21 => False.elim (by revert c21; decide)) (fun c21 => ?_)
    refine ax_s (pc' := 10) (st' := [.int 1]) rfl rfl rfl rfl ?_
    refine ax_s (pc' := 14) (st' := [.int 1]) rfl rfl rfl rfl ?_
    refine ax_rb (b := true) rfl rfl ?_
    show am_ex (d + 24) 138 13 [some (.int 2), some (.ref 4), some (.int 2), some (.int 0)] [.int 1] (am_hh X (am_u (am_u (am_u (am_u (am_u (am_u (am_u S 283 2 0) 284 0 12) 283 2 1) 284 1 11) 283 2 2) 284 2 10) 283 2 3) L) _
    refine ax_if_eq rfl (fun c22 => False.elim (by revert c22; decide)) (fun c22 => ?_)
    refine ax_s (pc' := 17) (st' := [.ref 4]) rfl rfl rfl rfl ?_
    refine ax_s (pc' := 18) (st' := [.int 2, .ref 4]) rfl rfl rfl rfl ?_
    refine ax_ald (j := 2) (v := 24) rfl (hh_s4 _ _ _) rfl rfl (by decide) (by decide) rfl ?_
    refine ax_s (pc' := 21) (st' := [.int (-1000000), .int 24]) rfl rfl rfl rfl ?_
    refine ax_cmp_eq rfl (fun c23 => False.elim (by revert c23; decide)) (fun c23 => ?_)
    refine ax_s (pc' := 25) (st' := [.ref 4]) rfl rfl rfl rfl ?_
    refine ax_s (pc' := 26) (st' := [.int 2, .ref 4]) rfl rfl rfl rfl ?_
    refine ax_ald (j := 2) (v := 24) rfl (hh_s4 _ _ _) rfl rfl (by decide) (by decide) rfl ?_
    refine ax_r rfl rfl rfl ?_
    show am_ex (d + 25) 137 26 [some (.ref 283), some (.int (nI j)), some (.int 1), some (.int 2)] [.int 24, .ref 283] (am_hh X (am_u (am_u (am_u (am_u (am_u (am_u (am_u S 283 2 0) 284 0 12) 283 2 1) 284 1 11) 283 2 2) 284 2 10) 283 2 3) L) _
    refine ax_s (pc' := 27) (st' := [.int (nI j), .int 24, .ref 283]) rfl rfl rfl rfl ?_
    refine ax_s (pc' := 28) (st' := [.int 2, .int (nI j), .int 24, .ref 283]) rfl rfl rfl rfl ?_
    refine ax_call (vs := [.ref 283, .int 24, .int (nI j), .int 2]) (rr := []) rfl rfl rfl ?_
    refine ax_in (ls := [some (.ref 283), some (.int 24), some (.int (nI j)), some (.int 2), none]) rfl ?_
    refine ax_s (pc' := 1) (st' := [.int 2]) rfl rfl rfl rfl ?_
    refine ax_s (pc' := 3) (st' := [.int 16, .int 2]) rfl rfl rfl rfl ?_
    refine ax_cmp_le rfl (fun c24 => ?_) (fun c24 => False.elim (by revert c24; decide))
    refine ax_s (pc' := 10) (st' := [.ref 283]) rfl rfl rfl rfl ?_
    refine ax_s (pc' := 11) (st' := [.int 24, .ref 283]) rfl rfl rfl rfl ?_
    refine ax_call (vs := [.ref 283, .int 24]) (rr := []) rfl rfl rfl ?_
    refine ax_in (ls := [some (.ref 283), some (.int 24)]) rfl ?_
    refine ax_s (pc' := 1) (st' := [.ref 283]) rfl rfl rfl rfl ?_
    refine ax_get rfl (hh_283 _ _ _) rfl rfl rfl ?_
    show am_ex (d + 23) 140 4 [some (.ref 283), some (.int 24)] [.int 3] (am_hh X (am_u (am_u (am_u (am_u (am_u (am_u (am_u S 283 2 0) 284 0 12) 283 2 1) 284 1 11) 283 2 2) 284 2 10) 283 2 3) L) _
    refine ax_if_lt rfl (fun c25 => False.elim (by revert c25; decide)) (fun c25 => ?_)
    refine ax_s (pc' := 8) (st' := [.ref 283]) rfl rfl rfl rfl ?_
    refine ax_get rfl (hh_283 _ _ _) rfl rfl rfl ?_
    show am_ex (d + 23) 140 11 [some (.ref 283), some (.int 24)] [.int 3] (am_hh X (am_u (am_u (am_u (am_u (am_u (am_u (am_u S 283 2 0) 284 0 12) 283 2 1) 284 1 11) 283 2 2) 284 2 10) 283 2 3) L) _
    refine ax_s (pc' := 13) (st' := [.int 16, .int 3]) rfl rfl rfl rfl ?_
    refine ax_cmp_ge rfl (fun c26 => False.elim (by revert c26; decide)) (fun c26 => ?_)
    refine ax_s (pc' := 17) (st' := [.ref 283]) rfl rfl rfl rfl ?_
    refine ax_get rfl (hh_283 _ _ _) rfl rfl rfl ?_
    show am_ex (d + 23) 140 20 [some (.ref 283), some (.int 24)] [.ref 284] (am_hh X (am_u (am_u (am_u (am_u (am_u (am_u (am_u S 283 2 0) 284 0 12) 283 2 1) 284 1 11) 283 2 2) 284 2 10) 283 2 3) L) _
    refine ax_s (pc' := 21) (st' := [.ref 283, .ref 284]) rfl rfl rfl rfl ?_
    refine ax_get rfl (hh_283 _ _ _) rfl rfl rfl ?_
    show am_ex (d + 23) 140 24 [some (.ref 283), some (.int 24)] [.int 3, .ref 284] (am_hh X (am_u (am_u (am_u (am_u (am_u (am_u (am_u S 283 2 0) 284 0 12) 283 2 1) 284 1 11) 283 2 2) 284 2 10) 283 2 3) L) _
    refine ax_s (pc' := 25) (st' := [.int 24, .int 3, .ref 284]) rfl rfl rfl rfl ?_
    refine ax_ast (j := 3) rfl (hh_284 _ _ _) rfl rfl (by decide) (by decide) (am_hh_set _ _ _ 284 3 _ rfl) ?_
    refine ax_s (pc' := 27) (st' := [.ref 283]) rfl rfl rfl rfl ?_
    refine ax_s (pc' := 28) (st' := [.ref 283, .ref 283]) rfl rfl rfl rfl ?_
    refine ax_get rfl (hh_283 _ _ _) rfl rfl rfl ?_
    show am_ex (d + 23) 140 31 [some (.ref 283), some (.int 24)] [.int 3, .ref 283] (am_hh X (am_u (am_u (am_u (am_u (am_u (am_u (am_u (am_u S 283 2 0) 284 0 12) 283 2 1) 284 1 11) 283 2 2) 284 2 10) 283 2 3) 284 3 24) L) _
    refine ax_s (pc' := 32) (st' := [.int 1, .int 3, .ref 283]) rfl rfl rfl rfl ?_
    refine ax_s (pc' := 33) (st' := [.int 4, .ref 283]) rfl rfl rfl rfl ?_
    refine ax_put rfl (hh_283 _ _ _) rfl rfl (show 2 + 1 ≤ _ from Nat.le_of_ble_eq_true rfl) rfl (am_hh_set _ _ _ 283 2 _ rfl) ?_
    refine ax_r rfl rfl rfl ?_
    show am_ex (d + 24) 139 14 [some (.ref 283), some (.int 24), some (.int (nI j)), some (.int 2), none] [] (am_hh X (am_u (am_u (am_u (am_u (am_u (am_u (am_u (am_u (am_u S 283 2 0) 284 0 12) 283 2 1) 284 1 11) 283 2 2) 284 2 10) 283 2 3) 284 3 24) 283 2 4) L) _
    refine ax_s (pc' := 15) (st' := [.int 2]) rfl rfl rfl rfl ?_
    refine ax_s (pc' := 16) (st' := [.int 1, .int 2]) rfl rfl rfl rfl ?_
    refine ax_s (pc' := 17) (st' := [.int 3]) rfl rfl rfl rfl ?_
    refine ax_s (pc' := 19) (ls' := [some (.ref 283), some (.int 24), some (.int (nI j)), some (.int 2), some (.int 3)]) (st' := []) rfl rfl rfl rfl ?_
    refine ax_s (pc' := 20) (st' := [.int 24]) rfl rfl rfl rfl ?_
    refine ax_s (pc' := 217) (ls' := [some (.ref 283), some (.int 24), some (.int (nI j)), some (.int 2), some (.int 3)]) (st' := []) (h1 := (am_hh X (am_u (am_u (am_u (am_u (am_u (am_u (am_u (am_u (am_u S 283 2 0) 284 0 12) 283 2 1) 284 1 11) 283 2 2) 284 2 10) 283 2 3) 284 3 24) 283 2 4) L)) rfl rfl rfl rfl ?_
    refine ax_s (pc' := 218) (st' := [.int 2]) rfl rfl rfl rfl ?_
    refine ax_s (pc' := 219) (st' := [.ref 283, .int 2]) rfl rfl rfl rfl ?_
    refine ax_s (pc' := 221) (st' := [.int 21, .ref 283, .int 2]) rfl rfl rfl rfl ?_
    refine ax_s (pc' := 222) (st' := [.int (nI j), .int 21, .ref 283, .int 2]) rfl rfl rfl rfl ?_
    refine ax_s (pc' := 224) (st' := [.int 3, .int (nI j), .int 21, .ref 283, .int 2]) rfl rfl rfl rfl ?_
    refine ax_call (vs := [.ref 283, .int 21, .int (nI j), .int 3]) (rr := [.int 2]) rfl rfl rfl ?_
    refine ax_in (ls := [some (.ref 283), some (.int 21), some (.int (nI j)), some (.int 3), none]) rfl ?_
    refine ax_s (pc' := 1) (st' := [.int 3]) rfl rfl rfl rfl ?_
    refine ax_s (pc' := 3) (st' := [.int 16, .int 3]) rfl rfl rfl rfl ?_
    refine ax_cmp_le rfl (fun c27 => ?_) (fun c27 => False.elim (by revert c27; decide))
    refine ax_s (pc' := 10) (st' := [.ref 283]) rfl rfl rfl rfl ?_
    refine ax_s (pc' := 11) (st' := [.int 21, .ref 283]) rfl rfl rfl rfl ?_
    refine ax_call (vs := [.ref 283, .int 21]) (rr := []) rfl rfl rfl ?_
    refine ax_in (ls := [some (.ref 283), some (.int 21)]) rfl ?_
    refine ax_s (pc' := 1) (st' := [.ref 283]) rfl rfl rfl rfl ?_
    refine ax_get rfl (hh_283 _ _ _) rfl rfl rfl ?_
    show am_ex (d + 22) 140 4 [some (.ref 283), some (.int 21)] [.int 4] (am_hh X (am_u (am_u (am_u (am_u (am_u (am_u (am_u (am_u (am_u S 283 2 0) 284 0 12) 283 2 1) 284 1 11) 283 2 2) 284 2 10) 283 2 3) 284 3 24) 283 2 4) L) _
    refine ax_if_lt rfl (fun c28 => False.elim (by revert c28; decide)) (fun c28 => ?_)
    refine ax_s (pc' := 8) (st' := [.ref 283]) rfl rfl rfl rfl ?_
    refine ax_get rfl (hh_283 _ _ _) rfl rfl rfl ?_
    show am_ex (d + 22) 140 11 [some (.ref 283), some (.int 21)] [.int 4] (am_hh X (am_u (am_u (am_u (am_u (am_u (am_u (am_u (am_u (am_u S 283 2 0) 284 0 12) 283 2 1) 284 1 11) 283 2 2) 284 2 10) 283 2 3) 284 3 24) 283 2 4) L) _
    refine ax_s (pc' := 13) (st' := [.int 16, .int 4]) rfl rfl rfl rfl ?_
    refine ax_cmp_ge rfl (fun c29 => False.elim (by revert c29; decide)) (fun c29 => ?_)
    refine ax_s (pc' := 17) (st' := [.ref 283]) rfl rfl rfl rfl ?_
    refine ax_get rfl (hh_283 _ _ _) rfl rfl rfl ?_
    show am_ex (d + 22) 140 20 [some (.ref 283), some (.int 21)] [.ref 284] (am_hh X (am_u (am_u (am_u (am_u (am_u (am_u (am_u (am_u (am_u S 283 2 0) 284 0 12) 283 2 1) 284 1 11) 283 2 2) 284 2 10) 283 2 3) 284 3 24) 283 2 4) L) _
    refine ax_s (pc' := 21) (st' := [.ref 283, .ref 284]) rfl rfl rfl rfl ?_
    refine ax_get rfl (hh_283 _ _ _) rfl rfl rfl ?_
    show am_ex (d + 22) 140 24 [some (.ref 283), some (.int 21)] [.int 4, .ref 284] (am_hh X (am_u (am_u (am_u (am_u (am_u (am_u (am_u (am_u (am_u S 283 2 0) 284 0 12) 283 2 1) 284 1 11) 283 2 2) 284 2 10) 283 2 3) 284 3 24) 283 2 4) L) _
    refine ax_s (pc' := 25) (st' := [.int 21, .int 4, .ref 284]) rfl rfl rfl rfl ?_
    refine ax_ast (j := 4) rfl (hh_284 _ _ _) rfl rfl (by decide) (by decide) (am_hh_set _ _ _ 284 4 _ rfl) ?_
    refine ax_s (pc' := 27) (st' := [.ref 283]) rfl rfl rfl rfl ?_
    refine ax_s (pc' := 28) (st' := [.ref 283, .ref 283]) rfl rfl rfl rfl ?_
    refine ax_get rfl (hh_283 _ _ _) rfl rfl rfl ?_
    show am_ex (d + 22) 140 31 [some (.ref 283), some (.int 21)] [.int 4, .ref 283] (am_hh X (am_u (am_u (am_u (am_u (am_u (am_u (am_u (am_u (am_u (am_u S 283 2 0) 284 0 12) 283 2 1) 284 1 11) 283 2 2) 284 2 10) 283 2 3) 284 3 24) 283 2 4) 284 4 21) L) _
    refine ax_s (pc' := 32) (st' := [.int 1, .int 4, .ref 283]) rfl rfl rfl rfl ?_
    refine ax_s (pc' := 33) (st' := [.int 5, .ref 283]) rfl rfl rfl rfl ?_
    refine ax_put rfl (hh_283 _ _ _) rfl rfl (show 2 + 1 ≤ _ from Nat.le_of_ble_eq_true rfl) rfl (am_hh_set _ _ _ 283 2 _ rfl) ?_
    refine ax_r rfl rfl rfl ?_
    show am_ex (d + 23) 139 14 [some (.ref 283), some (.int 21), some (.int (nI j)), some (.int 3), none] [] (am_hh X (am_u (am_u (am_u (am_u (am_u (am_u (am_u (am_u (am_u (am_u (am_u S 283 2 0) 284 0 12) 283 2 1) 284 1 11) 283 2 2) 284 2 10) 283 2 3) 284 3 24) 283 2 4) 284 4 21) 283 2 5) L) _
    refine ax_s (pc' := 15) (st' := [.int 3]) rfl rfl rfl rfl ?_
    refine ax_s (pc' := 16) (st' := [.int 1, .int 3]) rfl rfl rfl rfl ?_
    refine ax_s (pc' := 17) (st' := [.int 4]) rfl rfl rfl rfl ?_
    refine ax_s (pc' := 19) (ls' := [some (.ref 283), some (.int 21), some (.int (nI j)), some (.int 3), some (.int 4)]) (st' := []) rfl rfl rfl rfl ?_
    refine ax_s (pc' := 20) (st' := [.int 21]) rfl rfl rfl rfl ?_
    refine ax_s (pc' := 164) (ls' := [some (.ref 283), some (.int 21), some (.int (nI j)), some (.int 3), some (.int 4)]) (st' := []) (h1 := (am_hh X (am_u (am_u (am_u (am_u (am_u (am_u (am_u (am_u (am_u (am_u (am_u S 283 2 0) 284 0 12) 283 2 1) 284 1 11) 283 2 2) 284 2 10) 283 2 3) 284 3 24) 283 2 4) 284 4 21) 283 2 5) L)) rfl rfl rfl rfl ?_
    refine ax_s (pc' := 165) (st' := [.ref 283]) rfl rfl rfl rfl ?_
    refine ax_s (pc' := 167) (st' := [.int 20, .ref 283]) rfl rfl rfl rfl ?_
    refine ax_s (pc' := 168) (st' := [.int (nI j), .int 20, .ref 283]) rfl rfl rfl rfl ?_
    refine ax_s (pc' := 170) (st' := [.int 4, .int (nI j), .int 20, .ref 283]) rfl rfl rfl rfl ?_
    refine ax_call (vs := [.ref 283, .int 20, .int (nI j), .int 4]) (rr := []) rfl rfl rfl ?_
    refine ax_in (ls := [some (.ref 283), some (.int 20), some (.int (nI j)), some (.int 4), none]) rfl ?_
    refine ax_s (pc' := 1) (st' := [.int 4]) rfl rfl rfl rfl ?_
    refine ax_s (pc' := 3) (st' := [.int 16, .int 4]) rfl rfl rfl rfl ?_
    refine ax_cmp_le rfl (fun c30 => ?_) (fun c30 => False.elim (by revert c30; decide))
    refine ax_s (pc' := 10) (st' := [.ref 283]) rfl rfl rfl rfl ?_
    refine ax_s (pc' := 11) (st' := [.int 20, .ref 283]) rfl rfl rfl rfl ?_
    refine ax_call (vs := [.ref 283, .int 20]) (rr := []) rfl rfl rfl ?_
    refine ax_in (ls := [some (.ref 283), some (.int 20)]) rfl ?_
    refine ax_s (pc' := 1) (st' := [.ref 283]) rfl rfl rfl rfl ?_
    refine ax_get rfl (hh_283 _ _ _) rfl rfl rfl ?_
    show am_ex (d + 21) 140 4 [some (.ref 283), some (.int 20)] [.int 5] (am_hh X (am_u (am_u (am_u (am_u (am_u (am_u (am_u (am_u (am_u (am_u (am_u S 283 2 0) 284 0 12) 283 2 1) 284 1 11) 283 2 2) 284 2 10) 283 2 3) 284 3 24) 283 2 4) 284 4 21) 283 2 5) L) _
    refine ax_if_lt rfl (fun c31 => False.elim (by revert c31; decide)) (fun c31 => ?_)
    refine ax_s (pc' := 8) (st' := [.ref 283]) rfl rfl rfl rfl ?_
    refine ax_get rfl (hh_283 _ _ _) rfl rfl rfl ?_
    show am_ex (d + 21) 140 11 [some (.ref 283), some (.int 20)] [.int 5] (am_hh X (am_u (am_u (am_u (am_u (am_u (am_u (am_u (am_u (am_u (am_u (am_u S 283 2 0) 284 0 12) 283 2 1) 284 1 11) 283 2 2) 284 2 10) 283 2 3) 284 3 24) 283 2 4) 284 4 21) 283 2 5) L) _
    refine ax_s (pc' := 13) (st' := [.int 16, .int 5]) rfl rfl rfl rfl ?_
    refine ax_cmp_ge rfl (fun c32 => False.elim (by revert c32; decide)) (fun c32 => ?_)
    refine ax_s (pc' := 17) (st' := [.ref 283]) rfl rfl rfl rfl ?_
    refine ax_get rfl (hh_283 _ _ _) rfl rfl rfl ?_
    show am_ex (d + 21) 140 20 [some (.ref 283), some (.int 20)] [.ref 284] (am_hh X (am_u (am_u (am_u (am_u (am_u (am_u (am_u (am_u (am_u (am_u (am_u S 283 2 0) 284 0 12) 283 2 1) 284 1 11) 283 2 2) 284 2 10) 283 2 3) 284 3 24) 283 2 4) 284 4 21) 283 2 5) L) _
    refine ax_s (pc' := 21) (st' := [.ref 283, .ref 284]) rfl rfl rfl rfl ?_
    refine ax_get rfl (hh_283 _ _ _) rfl rfl rfl ?_
    show am_ex (d + 21) 140 24 [some (.ref 283), some (.int 20)] [.int 5, .ref 284] (am_hh X (am_u (am_u (am_u (am_u (am_u (am_u (am_u (am_u (am_u (am_u (am_u S 283 2 0) 284 0 12) 283 2 1) 284 1 11) 283 2 2) 284 2 10) 283 2 3) 284 3 24) 283 2 4) 284 4 21) 283 2 5) L) _
    refine ax_s (pc' := 25) (st' := [.int 20, .int 5, .ref 284]) rfl rfl rfl rfl ?_
    refine ax_ast (j := 5) rfl (hh_284 _ _ _) rfl rfl (by decide) (by decide) (am_hh_set _ _ _ 284 5 _ rfl) ?_
    refine ax_s (pc' := 27) (st' := [.ref 283]) rfl rfl rfl rfl ?_
    refine ax_s (pc' := 28) (st' := [.ref 283, .ref 283]) rfl rfl rfl rfl ?_
    refine ax_get rfl (hh_283 _ _ _) rfl rfl rfl ?_
    show am_ex (d + 21) 140 31 [some (.ref 283), some (.int 20)] [.int 5, .ref 283] (am_hh X (am_u (am_u (am_u (am_u (am_u (am_u (am_u (am_u (am_u (am_u (am_u (am_u S 283 2 0) 284 0 12) 283 2 1) 284 1 11) 283 2 2) 284 2 10) 283 2 3) 284 3 24) 283 2 4) 284 4 21) 283 2 5) 284 5 20) L) _
    refine ax_s (pc' := 32) (st' := [.int 1, .int 5, .ref 283]) rfl rfl rfl rfl ?_
    refine ax_s (pc' := 33) (st' := [.int 6, .ref 283]) rfl rfl rfl rfl ?_
    refine ax_put rfl (hh_283 _ _ _) rfl rfl (show 2 + 1 ≤ _ from Nat.le_of_ble_eq_true rfl) rfl (am_hh_set _ _ _ 283 2 _ rfl) ?_
    refine ax_r rfl rfl rfl ?_
    show am_ex (d + 22) 139 14 [some (.ref 283), some (.int 20), some (.int (nI j)), some (.int 4), none] [] (am_hh X (am_u (am_u (am_u (am_u (am_u (am_u (am_u (am_u (am_u (am_u (am_u (am_u (am_u S 283 2 0) 284 0 12) 283 2 1) 284 1 11) 283 2 2) 284 2 10) 283 2 3) 284 3 24) 283 2 4) 284 4 21) 283 2 5) 284 5 20) 283 2 6) L) _
    refine ax_s (pc' := 15) (st' := [.int 4]) rfl rfl rfl rfl ?_
    refine ax_s (pc' := 16) (st' := [.int 1, .int 4]) rfl rfl rfl rfl ?_
    refine ax_s (pc' := 17) (st' := [.int 5]) rfl rfl rfl rfl ?_
    refine ax_s (pc' := 19) (ls' := [some (.ref 283), some (.int 20), some (.int (nI j)), some (.int 4), some (.int 5)]) (st' := []) rfl rfl rfl rfl ?_
    refine ax_s (pc' := 20) (st' := [.int 20]) rfl rfl rfl rfl ?_
    refine ax_s (pc' := 162) (ls' := [some (.ref 283), some (.int 20), some (.int (nI j)), some (.int 4), some (.int 5)]) (st' := []) (h1 := (am_hh X (am_u (am_u (am_u (am_u (am_u (am_u (am_u (am_u (am_u (am_u (am_u (am_u (am_u S 283 2 0) 284 0 12) 283 2 1) 284 1 11) 283 2 2) 284 2 10) 283 2 3) 284 3 24) 283 2 4) 284 4 21) 283 2 5) 284 5 20) 283 2 6) L)) rfl rfl rfl rfl ?_
    refine ax_s (pc' := 163) (st' := [.int (nI j)]) rfl rfl rfl rfl ?_
    refine ax_r rfl rfl rfl ?_
    show am_ex (d + 23) 139 173 [some (.ref 283), some (.int 21), some (.int (nI j)), some (.int 3), some (.int 4)] [.int (nI j)] (am_hh X (am_u (am_u (am_u (am_u (am_u (am_u (am_u (am_u (am_u (am_u (am_u (am_u (am_u S 283 2 0) 284 0 12) 283 2 1) 284 1 11) 283 2 2) 284 2 10) 283 2 3) 284 3 24) 283 2 4) 284 4 21) 283 2 5) 284 5 20) 283 2 6) L) _
    refine ax_s (pc' := 174) (st' := [.ref 283, .int (nI j)]) rfl rfl rfl rfl ?_
    refine ax_get rfl (hh_283 _ _ _) rfl rfl rfl ?_
    show am_ex (d + 23) 139 177 [some (.ref 283), some (.int 21), some (.int (nI j)), some (.int 3), some (.int 4)] [.ref 20, .int (nI j)] (am_hh X (am_u (am_u (am_u (am_u (am_u (am_u (am_u (am_u (am_u (am_u (am_u (am_u (am_u S 283 2 0) 284 0 12) 283 2 1) 284 1 11) 283 2 2) 284 2 10) 283 2 3) 284 3 24) 283 2 4) 284 4 21) 283 2 5) 284 5 20) 283 2 6) L) _
    refine ax_get rfl (hh_20 _ _ _) rfl rfl rfl ?_
    show am_ex (d + 23) 139 180 [some (.ref 283), some (.int 21), some (.int (nI j)), some (.int 3), some (.int 4)] [.ref 27, .int (nI j)] (am_hh X (am_u (am_u (am_u (am_u (am_u (am_u (am_u (am_u (am_u (am_u (am_u (am_u (am_u S 283 2 0) 284 0 12) 283 2 1) 284 1 11) 283 2 2) 284 2 10) 283 2 3) 284 3 24) 283 2 4) 284 4 21) 283 2 5) 284 5 20) 283 2 6) L) _
    refine ax_s (pc' := 181) (st' := [.int (nI j), .ref 27, .int (nI j)]) rfl rfl rfl rfl ?_
    refine ax_ald (j := j) (v := (S 27 j)) rfl (hh_27 _ _ _) rfl rfl (x1 c1) (by decide) rfl ?_
    refine ax_s (pc' := 183) (st' := [.int ((nI j) + (S 27 j))]) rfl rfl rfl rfl ?_
    refine ax_r rfl rfl rfl ?_
    show am_ex (d + 24) 139 227 [some (.ref 283), some (.int 24), some (.int (nI j)), some (.int 2), some (.int 3)] [.int ((nI j) + (S 27 j)), .int 2] (am_hh X (am_u (am_u (am_u (am_u (am_u (am_u (am_u (am_u (am_u (am_u (am_u (am_u (am_u S 283 2 0) 284 0 12) 283 2 1) 284 1 11) 283 2 2) 284 2 10) 283 2 3) 284 3 24) 283 2 4) 284 4 21) 283 2 5) 284 5 20) 283 2 6) L) _
    refine ax_s (pc' := 228) (st' := [.int (2 * ((nI j) + (S 27 j)))]) rfl rfl rfl rfl ?_
    refine ax_r rfl rfl rfl ?_
    show am_ex (d + 25) 137 31 [some (.ref 283), some (.int (nI j)), some (.int 1), some (.int 2)] [.int (2 * ((nI j) + (S 27 j)))] (am_hh X (am_u (am_u (am_u (am_u (am_u (am_u (am_u (am_u (am_u (am_u (am_u (am_u (am_u S 283 2 0) 284 0 12) 283 2 1) 284 1 11) 283 2 2) 284 2 10) 283 2 3) 284 3 24) 283 2 4) 284 4 21) 283 2 5) 284 5 20) 283 2 6) L) _
    refine ax_r rfl rfl rfl ?_
    show am_ex (d + 26) 139 123 [some (.ref 283), some (.int 11), some (.int (nI j)), some (.int 1), some (.int 2)] [.int (2 * ((nI j) + (S 27 j))), .int (S 23 j)] (am_hh X (am_u (am_u (am_u (am_u (am_u (am_u (am_u (am_u (am_u (am_u (am_u (am_u (am_u S 283 2 0) 284 0 12) 283 2 1) 284 1 11) 283 2 2) 284 2 10) 283 2 3) 284 3 24) 283 2 4) 284 4 21) 283 2 5) 284 5 20) 283 2 6) L) _
    refine ax_s (pc' := 124) (st' := [.int ((S 23 j) + (2 * ((nI j) + (S 27 j))))]) rfl rfl rfl rfl ?_
    refine ax_r rfl rfl rfl ?_
    show am_ex (d + 27) 139 135 [some (.ref 283), some (.int 12), some (.int (nI j)), some (.int 0), some (.int 1)] [.int ((S 23 j) + (2 * ((nI j) + (S 27 j)))), .int 0] (am_hh X (am_u (am_u (am_u (am_u (am_u (am_u (am_u (am_u (am_u (am_u (am_u (am_u (am_u S 283 2 0) 284 0 12) 283 2 1) 284 1 11) 283 2 2) 284 2 10) 283 2 3) 284 3 24) 283 2 4) 284 4 21) 283 2 5) 284 5 20) 283 2 6) L) _
    refine ax_s (pc' := 136) (st' := [.int (0 - ((S 23 j) + (2 * ((nI j) + (S 27 j)))))]) rfl rfl rfl rfl ?_
    refine ax_r rfl rfl rfl ?_
    show am_ex (d + 28) 137 31 [some (.ref 283), some (.int (nI j)), some (.int 0), some (.int 0)] [.int (0 - ((S 23 j) + (2 * ((nI j) + (S 27 j)))))] (am_hh X (am_u (am_u (am_u (am_u (am_u (am_u (am_u (am_u (am_u (am_u (am_u (am_u (am_u S 283 2 0) 284 0 12) 283 2 1) 284 1 11) 283 2 2) 284 2 10) 283 2 3) 284 3 24) 283 2 4) 284 4 21) 283 2 5) 284 5 20) 283 2 6) L) _
    refine ax_r rfl rfl rfl ?_
    show am_ex (d + 29) 238 12 [some (.ref 283), some (.int (nI j)), some (.int 0)] [.int (0 - ((S 23 j) + (2 * ((nI j) + (S 27 j)))))] (am_hh X (am_u (am_u (am_u (am_u (am_u (am_u (am_u (am_u (am_u (am_u (am_u (am_u (am_u S 283 2 0) 284 0 12) 283 2 1) 284 1 11) 283 2 2) 284 2 10) 283 2 3) 284 3 24) 283 2 4) 284 4 21) 283 2 5) 284 5 20) 283 2 6) L) _
    refine ax_r rfl rfl rfl ?_
    show am_ex (d + 30) 136 32 [some (.ref 5), some (.int (nI j)), some (.int 0)] [.int (0 - ((S 23 j) + (2 * ((nI j) + (S 27 j)))))] (am_hh X (am_u (am_u (am_u (am_u (am_u (am_u (am_u (am_u (am_u (am_u (am_u (am_u (am_u S 283 2 0) 284 0 12) 283 2 1) 284 1 11) 283 2 2) 284 2 10) 283 2 3) 284 3 24) 283 2 4) 284 4 21) 283 2 5) 284 5 20) 283 2 6) L) _
    refine ax_r rfl rfl rfl ?_
    exact k2 c1
theorem wm_ask_2_0 {d : Nat} {X : Nat × (Nat → Int32)} {S : Nat → Nat → Int32} {L : Nat → Int64} {j : Nat} {Q : Option Value → am_H → Prop} (hk : S 290 j = 2) (hj : j < 6)  (x1 : ¬ (nI j) < 0 ∧ ¬ (S 285 7) - 1 < (nI j) → j < 6) (x2 : ¬ (nI j) < 0 ∧ ¬ (S 285 7) - 1 < (nI j) → (27 + j) < 39) (k1 : ¬ (¬ (nI j) < 0 ∧ ¬ (S 285 7) - 1 < (nI j)) → Q (some (.int (-1000001))) (am_hh X S L)) (k2 : ¬ (nI j) < 0 ∧ ¬ (S 285 7) - 1 < (nI j) → Q (some (.int (-((S 291 j) + (2 * ((nI j) + (S 293 (27 + j)))))))) (am_hh X (am_u (am_u (am_u (am_u (am_u (am_u (am_u (am_u (am_u (am_u (am_u (am_u (am_u S 285 20 0) 299 0 12) 285 20 1) 299 1 11) 285 20 2) 299 2 10) 285 20 3) 299 3 24) 285 20 4) 299 4 21) 285 20 5) 299 5 20) 285 20 6) L)) : am_mt (d + 10) 224 [.ref 285, .int (nI j), .int 0] (am_hh X S L) Q := by
  refine ax_in (ls := [some (.ref 285), some (.int (nI j)), some (.int 0)]) rfl ?_
  refine ax_s (pc' := 1) (st' := [.ref 285]) rfl rfl rfl rfl ?_
  refine ax_s (pc' := 2) (st' := [.int (nI j), .ref 285]) rfl rfl rfl rfl ?_
  refine ax_call (vs := [.ref 285, .int (nI j)]) (rr := []) rfl rfl rfl ?_
  refine mt_isParty  ?_
  show am_ex (d + 10) 224 5 [some (.ref 285), some (.int (nI j)), some (.int 0)] [.int (bI (decide (¬ (nI j) < 0 ∧ ¬ (S 285 7) - 1 < (nI j))))] (am_hh X S L) _
  refine ax_pF rfl (fun c1 => ?_) (fun c1 => ?_)
  · refine ax_s (pc' := 19) (st' := [.int (-1000001)]) rfl rfl rfl rfl ?_
    refine ax_r rfl rfl rfl ?_
    exact k1 c1
  · refine ax_s (pc' := 9) (st' := [.int 0]) rfl rfl rfl rfl ?_
    refine ax_s (pc' := 10) (st' := [.int 0, .int 0]) rfl rfl rfl rfl ?_
    refine ax_s (pc' := 11) (st' := [.int 1, .int 0, .int 0]) rfl rfl rfl rfl ?_
    refine ax_call (vs := [.int 0, .int 0, .int 1]) (rr := []) rfl rfl rfl ?_
    refine mt_in ?_
    show am_ex (d + 10) 224 14 [some (.ref 285), some (.int (nI j)), some (.int 0)] [.int 1] (am_hh X S L) _
    refine ax_if_ne rfl (fun c2 => ?_) (fun c2 => False.elim (by revert c2; decide))
    refine ax_s (pc' := 21) (st' := [.ref 285]) rfl rfl rfl rfl ?_
    refine ax_s (pc' := 22) (st' := [.int 0, .ref 285]) rfl rfl rfl rfl ?_
    refine ax_put rfl (hh_285 _ _ _) rfl rfl (show 20 + 1 ≤ _ from Nat.le_of_ble_eq_true rfl) rfl (am_hh_set _ _ _ 285 20 _ rfl) ?_
    refine ax_s (pc' := 26) (st' := [.ref 285]) rfl rfl rfl rfl ?_
    refine ax_get rfl (hh_285 _ _ _) rfl rfl rfl ?_
    show am_ex (d + 10) 224 29 [some (.ref 285), some (.int (nI j)), some (.int 0)] [.ref 290] (am_hh X (am_u S 285 20 0) L) _
    refine ax_s (pc' := 30) (st' := [.int (nI j), .ref 290]) rfl rfl rfl rfl ?_
    refine ax_ald (j := j) (v := 2) rfl (hh_290 _ _ _) rfl rfl (x1 c1) (by decide) hk ?_
    refine ax_s (pc' := 32) (st' := [.int 4, .int 2]) rfl rfl rfl rfl ?_
    refine ax_cmp_ge rfl (fun c3 => False.elim (by revert c3; decide)) (fun c3 => ?_)
    refine ax_s (pc' := 36) (st' := [.int 0]) rfl rfl rfl rfl ?_
    refine ax_if_ne rfl (fun c4 => False.elim (by revert c4; decide)) (fun c4 => ?_)
    refine ax_s (pc' := 40) (st' := [.ref 285]) rfl rfl rfl rfl ?_
    refine ax_s (pc' := 41) (st' := [.int (nI j), .ref 285]) rfl rfl rfl rfl ?_
    refine ax_call (vs := [.ref 285, .int (nI j)]) (rr := []) rfl rfl rfl ?_
    refine ax_in (ls := [some (.ref 285), some (.int (nI j)), none]) rfl ?_
    refine ax_s (pc' := 1) (st' := [.ref 285]) rfl rfl rfl rfl ?_
    refine ax_get rfl (hh_285 _ _ _) rfl rfl rfl ?_
    show am_ex (d + 9) 225 4 [some (.ref 285), some (.int (nI j)), none] [.ref 290] (am_hh X (am_u S 285 20 0) L) _
    refine ax_s (pc' := 5) (st' := [.int (nI j), .ref 290]) rfl rfl rfl rfl ?_
    refine ax_ald (j := j) (v := 2) rfl (hh_290 _ _ _) rfl rfl (x1 c1) (by decide) hk ?_
    refine ax_s (pc' := 7) (st' := [.int 2, .int 2]) rfl rfl rfl rfl ?_
    refine ax_cmp_ne rfl (fun c5 => False.elim (by revert c5; decide)) (fun c5 => ?_)
    refine ax_s (pc' := 11) (st' := [.ref 285]) rfl rfl rfl rfl ?_
    refine ax_s (pc' := 13) (st' := [.int 12, .ref 285]) rfl rfl rfl rfl ?_
    refine ax_call (vs := [.ref 285, .int 12]) (rr := []) rfl rfl rfl ?_
    refine ax_in (ls := [some (.ref 285), some (.int 12)]) rfl ?_
    refine ax_s (pc' := 1) (st' := [.ref 285]) rfl rfl rfl rfl ?_
    refine ax_get rfl (hh_285 _ _ _) rfl rfl rfl ?_
    show am_ex (d + 8) 226 4 [some (.ref 285), some (.int 12)] [.int 0] (am_hh X (am_u S 285 20 0) L) _
    refine ax_s (pc' := 6) (st' := [.int 16, .int 0]) rfl rfl rfl rfl ?_
    refine ax_cmp_ge rfl (fun c6 => False.elim (by revert c6; decide)) (fun c6 => ?_)
    refine ax_s (pc' := 10) (st' := [.ref 285]) rfl rfl rfl rfl ?_
    refine ax_get rfl (hh_285 _ _ _) rfl rfl rfl ?_
    show am_ex (d + 8) 226 13 [some (.ref 285), some (.int 12)] [.ref 299] (am_hh X (am_u S 285 20 0) L) _
    refine ax_s (pc' := 14) (st' := [.ref 285, .ref 299]) rfl rfl rfl rfl ?_
    refine ax_get rfl (hh_285 _ _ _) rfl rfl rfl ?_
    show am_ex (d + 8) 226 17 [some (.ref 285), some (.int 12)] [.int 0, .ref 299] (am_hh X (am_u S 285 20 0) L) _
    refine ax_s (pc' := 18) (st' := [.int 12, .int 0, .ref 299]) rfl rfl rfl rfl ?_
    refine ax_ast (j := 0) rfl (hh_299 _ _ _) rfl rfl (by decide) (by decide) (am_hh_set _ _ _ 299 0 _ rfl) ?_
    refine ax_s (pc' := 20) (st' := [.ref 285]) rfl rfl rfl rfl ?_
    refine ax_s (pc' := 21) (st' := [.ref 285, .ref 285]) rfl rfl rfl rfl ?_
    refine ax_get rfl (hh_285 _ _ _) rfl rfl rfl ?_
    show am_ex (d + 8) 226 24 [some (.ref 285), some (.int 12)] [.int 0, .ref 285] (am_hh X (am_u (am_u S 285 20 0) 299 0 12) L) _
    refine ax_s (pc' := 25) (st' := [.int 1, .int 0, .ref 285]) rfl rfl rfl rfl ?_
    refine ax_s (pc' := 26) (st' := [.int 1, .ref 285]) rfl rfl rfl rfl ?_
    refine ax_put rfl (hh_285 _ _ _) rfl rfl (show 20 + 1 ≤ _ from Nat.le_of_ble_eq_true rfl) rfl (am_hh_set _ _ _ 285 20 _ rfl) ?_
    refine ax_r rfl rfl rfl ?_
    show am_ex (d + 9) 225 16 [some (.ref 285), some (.int (nI j)), none] [] (am_hh X (am_u (am_u (am_u S 285 20 0) 299 0 12) 285 20 1) L) _
    refine ax_s (pc' := 17) (st' := [.ref 285]) rfl rfl rfl rfl ?_
    refine ax_s (pc' := 19) (st' := [.int 11, .ref 285]) rfl rfl rfl rfl ?_
    refine ax_call (vs := [.ref 285, .int 11]) (rr := []) rfl rfl rfl ?_
    refine ax_in (ls := [some (.ref 285), some (.int 11)]) rfl ?_
    refine ax_s (pc' := 1) (st' := [.ref 285]) rfl rfl rfl rfl ?_
    refine ax_get rfl (hh_285 _ _ _) rfl rfl rfl ?_
    show am_ex (d + 8) 226 4 [some (.ref 285), some (.int 11)] [.int 1] (am_hh X (am_u (am_u (am_u S 285 20 0) 299 0 12) 285 20 1) L) _
    refine ax_s (pc' := 6) (st' := [.int 16, .int 1]) rfl rfl rfl rfl ?_
    refine ax_cmp_ge rfl (fun c7 => False.elim (by revert c7; decide)) (fun c7 => ?_)
    refine ax_s (pc' := 10) (st' := [.ref 285]) rfl rfl rfl rfl ?_
    refine ax_get rfl (hh_285 _ _ _) rfl rfl rfl ?_
    show am_ex (d + 8) 226 13 [some (.ref 285), some (.int 11)] [.ref 299] (am_hh X (am_u (am_u (am_u S 285 20 0) 299 0 12) 285 20 1) L) _
    refine ax_s (pc' := 14) (st' := [.ref 285, .ref 299]) rfl rfl rfl rfl ?_
    refine ax_get rfl (hh_285 _ _ _) rfl rfl rfl ?_
    show am_ex (d + 8) 226 17 [some (.ref 285), some (.int 11)] [.int 1, .ref 299] (am_hh X (am_u (am_u (am_u S 285 20 0) 299 0 12) 285 20 1) L) _
    refine ax_s (pc' := 18) (st' := [.int 11, .int 1, .ref 299]) rfl rfl rfl rfl ?_
    refine ax_ast (j := 1) rfl (hh_299 _ _ _) rfl rfl (by decide) (by decide) (am_hh_set _ _ _ 299 1 _ rfl) ?_
    refine ax_s (pc' := 20) (st' := [.ref 285]) rfl rfl rfl rfl ?_
    refine ax_s (pc' := 21) (st' := [.ref 285, .ref 285]) rfl rfl rfl rfl ?_
    refine ax_get rfl (hh_285 _ _ _) rfl rfl rfl ?_
    show am_ex (d + 8) 226 24 [some (.ref 285), some (.int 11)] [.int 1, .ref 285] (am_hh X (am_u (am_u (am_u (am_u S 285 20 0) 299 0 12) 285 20 1) 299 1 11) L) _
    refine ax_s (pc' := 25) (st' := [.int 1, .int 1, .ref 285]) rfl rfl rfl rfl ?_
    refine ax_s (pc' := 26) (st' := [.int 2, .ref 285]) rfl rfl rfl rfl ?_
    refine ax_put rfl (hh_285 _ _ _) rfl rfl (show 20 + 1 ≤ _ from Nat.le_of_ble_eq_true rfl) rfl (am_hh_set _ _ _ 285 20 _ rfl) ?_
    refine ax_r rfl rfl rfl ?_
    show am_ex (d + 9) 225 22 [some (.ref 285), some (.int (nI j)), none] [] (am_hh X (am_u (am_u (am_u (am_u (am_u S 285 20 0) 299 0 12) 285 20 1) 299 1 11) 285 20 2) L) _
    refine ax_s (pc' := 23) (st' := [.ref 285]) rfl rfl rfl rfl ?_
    refine ax_s (pc' := 24) (st' := [.int (nI j), .ref 285]) rfl rfl rfl rfl ?_
    refine ax_call (vs := [.ref 285, .int (nI j)]) (rr := []) rfl rfl rfl ?_
    refine ax_in (ls := [some (.ref 285), some (.int (nI j))]) rfl ?_
    refine ax_s (pc' := 1) (st' := [.ref 285]) rfl rfl rfl rfl ?_
    refine ax_s (pc' := 3) (st' := [.int 10, .ref 285]) rfl rfl rfl rfl ?_
    refine ax_call (vs := [.ref 285, .int 10]) (rr := []) rfl rfl rfl ?_
    refine ax_in (ls := [some (.ref 285), some (.int 10)]) rfl ?_
    refine ax_s (pc' := 1) (st' := [.ref 285]) rfl rfl rfl rfl ?_
    refine ax_get rfl (hh_285 _ _ _) rfl rfl rfl ?_
    show am_ex (d + 7) 226 4 [some (.ref 285), some (.int 10)] [.int 2] (am_hh X (am_u (am_u (am_u (am_u (am_u S 285 20 0) 299 0 12) 285 20 1) 299 1 11) 285 20 2) L) _
    refine ax_s (pc' := 6) (st' := [.int 16, .int 2]) rfl rfl rfl rfl ?_
    refine ax_cmp_ge rfl (fun c8 => False.elim (by revert c8; decide)) (fun c8 => ?_)
    refine ax_s (pc' := 10) (st' := [.ref 285]) rfl rfl rfl rfl ?_
    refine ax_get rfl (hh_285 _ _ _) rfl rfl rfl ?_
    show am_ex (d + 7) 226 13 [some (.ref 285), some (.int 10)] [.ref 299] (am_hh X (am_u (am_u (am_u (am_u (am_u S 285 20 0) 299 0 12) 285 20 1) 299 1 11) 285 20 2) L) _
    refine ax_s (pc' := 14) (st' := [.ref 285, .ref 299]) rfl rfl rfl rfl ?_
    refine ax_get rfl (hh_285 _ _ _) rfl rfl rfl ?_
    show am_ex (d + 7) 226 17 [some (.ref 285), some (.int 10)] [.int 2, .ref 299] (am_hh X (am_u (am_u (am_u (am_u (am_u S 285 20 0) 299 0 12) 285 20 1) 299 1 11) 285 20 2) L) _
    refine ax_s (pc' := 18) (st' := [.int 10, .int 2, .ref 299]) rfl rfl rfl rfl ?_
    refine ax_ast (j := 2) rfl (hh_299 _ _ _) rfl rfl (by decide) (by decide) (am_hh_set _ _ _ 299 2 _ rfl) ?_
    refine ax_s (pc' := 20) (st' := [.ref 285]) rfl rfl rfl rfl ?_
    refine ax_s (pc' := 21) (st' := [.ref 285, .ref 285]) rfl rfl rfl rfl ?_
    refine ax_get rfl (hh_285 _ _ _) rfl rfl rfl ?_
    show am_ex (d + 7) 226 24 [some (.ref 285), some (.int 10)] [.int 2, .ref 285] (am_hh X (am_u (am_u (am_u (am_u (am_u (am_u S 285 20 0) 299 0 12) 285 20 1) 299 1 11) 285 20 2) 299 2 10) L) _
    refine ax_s (pc' := 25) (st' := [.int 1, .int 2, .ref 285]) rfl rfl rfl rfl ?_
    refine ax_s (pc' := 26) (st' := [.int 3, .ref 285]) rfl rfl rfl rfl ?_
    refine ax_put rfl (hh_285 _ _ _) rfl rfl (show 20 + 1 ≤ _ from Nat.le_of_ble_eq_true rfl) rfl (am_hh_set _ _ _ 285 20 _ rfl) ?_
    refine ax_r rfl rfl rfl ?_
    show am_ex (d + 8) 227 6 [some (.ref 285), some (.int (nI j))] [] (am_hh X (am_u (am_u (am_u (am_u (am_u (am_u (am_u S 285 20 0) 299 0 12) 285 20 1) 299 1 11) 285 20 2) 299 2 10) 285 20 3) L) _
    refine ax_s (pc' := 7) (st' := [.ref 285]) rfl rfl rfl rfl ?_
    refine ax_get rfl (hh_285 _ _ _) rfl rfl rfl ?_
    show am_ex (d + 8) 227 10 [some (.ref 285), some (.int (nI j))] [.ref 291] (am_hh X (am_u (am_u (am_u (am_u (am_u (am_u (am_u S 285 20 0) 299 0 12) 285 20 1) 299 1 11) 285 20 2) 299 2 10) 285 20 3) L) _
    refine ax_s (pc' := 11) (st' := [.int (nI j), .ref 291]) rfl rfl rfl rfl ?_
    refine ax_ald (j := j) (v := (S 291 j)) rfl (hh_291 _ _ _) rfl rfl (x1 c1) (by decide) rfl ?_
    refine ax_r rfl rfl rfl ?_
    show am_ex (d + 9) 225 27 [some (.ref 285), some (.int (nI j)), none] [.int (S 291 j)] (am_hh X (am_u (am_u (am_u (am_u (am_u (am_u (am_u S 285 20 0) 299 0 12) 285 20 1) 299 1 11) 285 20 2) 299 2 10) 285 20 3) L) _
    refine ax_s (pc' := 28) (st' := [.ref 285, .int (S 291 j)]) rfl rfl rfl rfl ?_
    refine ax_s (pc' := 29) (st' := [.int (nI j), .ref 285, .int (S 291 j)]) rfl rfl rfl rfl ?_
    refine ax_call (vs := [.ref 285, .int (nI j)]) (rr := [.int (S 291 j)]) rfl rfl rfl ?_
    refine ax_in (ls := [some (.ref 285), some (.int (nI j))]) rfl ?_
    refine ax_s (pc' := 1) (st' := [.ref 285]) rfl rfl rfl rfl ?_
    refine ax_get rfl (hh_285 _ _ _) rfl rfl rfl ?_
    show am_ex (d + 8) 228 4 [some (.ref 285), some (.int (nI j))] [.ref 290] (am_hh X (am_u (am_u (am_u (am_u (am_u (am_u (am_u S 285 20 0) 299 0 12) 285 20 1) 299 1 11) 285 20 2) 299 2 10) 285 20 3) L) _
    refine ax_s (pc' := 5) (st' := [.int (nI j), .ref 290]) rfl rfl rfl rfl ?_
    refine ax_ald (j := j) (v := 2) rfl (hh_290 _ _ _) rfl rfl (x1 c1) (by decide) hk ?_
    refine ax_s (pc' := 7) (st' := [.int 3, .int 2]) rfl rfl rfl rfl ?_
    refine ax_cmp_ne rfl (fun c9 => ?_) (fun c9 => False.elim (by revert c9; decide))
    refine ax_s (pc' := 27) (st' := [.ref 285]) rfl rfl rfl rfl ?_
    refine ax_get rfl (hh_285 _ _ _) rfl rfl rfl ?_
    show am_ex (d + 8) 228 30 [some (.ref 285), some (.int (nI j))] [.ref 290] (am_hh X (am_u (am_u (am_u (am_u (am_u (am_u (am_u S 285 20 0) 299 0 12) 285 20 1) 299 1 11) 285 20 2) 299 2 10) 285 20 3) L) _
    refine ax_s (pc' := 31) (st' := [.int (nI j), .ref 290]) rfl rfl rfl rfl ?_
    refine ax_ald (j := j) (v := 2) rfl (hh_290 _ _ _) rfl rfl (x1 c1) (by decide) hk ?_
    refine ax_s (pc' := 33) (st' := [.int 2, .int 2]) rfl rfl rfl rfl ?_
    refine ax_cmp_ne rfl (fun c10 => False.elim (by revert c10; decide)) (fun c10 => ?_)
    refine ax_s (pc' := 37) (st' := [.ref 285]) rfl rfl rfl rfl ?_
    refine ax_s (pc' := 39) (st' := [.int 24, .ref 285]) rfl rfl rfl rfl ?_
    refine ax_call (vs := [.ref 285, .int 24]) (rr := []) rfl rfl rfl ?_
    refine ax_in (ls := [some (.ref 285), some (.int 24)]) rfl ?_
    refine ax_s (pc' := 1) (st' := [.ref 285]) rfl rfl rfl rfl ?_
    refine ax_get rfl (hh_285 _ _ _) rfl rfl rfl ?_
    show am_ex (d + 7) 226 4 [some (.ref 285), some (.int 24)] [.int 3] (am_hh X (am_u (am_u (am_u (am_u (am_u (am_u (am_u S 285 20 0) 299 0 12) 285 20 1) 299 1 11) 285 20 2) 299 2 10) 285 20 3) L) _
    refine ax_s (pc' := 6) (st' := [.int 16, .int 3]) rfl rfl rfl rfl ?_
    refine ax_cmp_ge rfl (fun c11 => False.elim (by revert c11; decide)) (fun c11 => ?_)
    refine ax_s (pc' := 10) (st' := [.ref 285]) rfl rfl rfl rfl ?_
    refine ax_get rfl (hh_285 _ _ _) rfl rfl rfl ?_
    show am_ex (d + 7) 226 13 [some (.ref 285), some (.int 24)] [.ref 299] (am_hh X (am_u (am_u (am_u (am_u (am_u (am_u (am_u S 285 20 0) 299 0 12) 285 20 1) 299 1 11) 285 20 2) 299 2 10) 285 20 3) L) _
    refine ax_s (pc' := 14) (st' := [.ref 285, .ref 299]) rfl rfl rfl rfl ?_
    refine ax_get rfl (hh_285 _ _ _) rfl rfl rfl ?_
    show am_ex (d + 7) 226 17 [some (.ref 285), some (.int 24)] [.int 3, .ref 299] (am_hh X (am_u (am_u (am_u (am_u (am_u (am_u (am_u S 285 20 0) 299 0 12) 285 20 1) 299 1 11) 285 20 2) 299 2 10) 285 20 3) L) _
    refine ax_s (pc' := 18) (st' := [.int 24, .int 3, .ref 299]) rfl rfl rfl rfl ?_
    refine ax_ast (j := 3) rfl (hh_299 _ _ _) rfl rfl (by decide) (by decide) (am_hh_set _ _ _ 299 3 _ rfl) ?_
    refine ax_s (pc' := 20) (st' := [.ref 285]) rfl rfl rfl rfl ?_
    refine ax_s (pc' := 21) (st' := [.ref 285, .ref 285]) rfl rfl rfl rfl ?_
    refine ax_get rfl (hh_285 _ _ _) rfl rfl rfl ?_
    show am_ex (d + 7) 226 24 [some (.ref 285), some (.int 24)] [.int 3, .ref 285] (am_hh X (am_u (am_u (am_u (am_u (am_u (am_u (am_u (am_u S 285 20 0) 299 0 12) 285 20 1) 299 1 11) 285 20 2) 299 2 10) 285 20 3) 299 3 24) L) _
    refine ax_s (pc' := 25) (st' := [.int 1, .int 3, .ref 285]) rfl rfl rfl rfl ?_
    refine ax_s (pc' := 26) (st' := [.int 4, .ref 285]) rfl rfl rfl rfl ?_
    refine ax_put rfl (hh_285 _ _ _) rfl rfl (show 20 + 1 ≤ _ from Nat.le_of_ble_eq_true rfl) rfl (am_hh_set _ _ _ 285 20 _ rfl) ?_
    refine ax_r rfl rfl rfl ?_
    show am_ex (d + 8) 228 42 [some (.ref 285), some (.int (nI j))] [] (am_hh X (am_u (am_u (am_u (am_u (am_u (am_u (am_u (am_u (am_u S 285 20 0) 299 0 12) 285 20 1) 299 1 11) 285 20 2) 299 2 10) 285 20 3) 299 3 24) 285 20 4) L) _
    refine ax_s (pc' := 43) (st' := [.int 2]) rfl rfl rfl rfl ?_
    refine ax_s (pc' := 44) (st' := [.ref 285, .int 2]) rfl rfl rfl rfl ?_
    refine ax_s (pc' := 45) (st' := [.int (nI j), .ref 285, .int 2]) rfl rfl rfl rfl ?_
    refine ax_call (vs := [.ref 285, .int (nI j)]) (rr := [.int 2]) rfl rfl rfl ?_
    refine ax_in (ls := [some (.ref 285), some (.int (nI j))]) rfl ?_
    refine ax_s (pc' := 1) (st' := [.ref 285]) rfl rfl rfl rfl ?_
    refine ax_s (pc' := 3) (st' := [.int 21, .ref 285]) rfl rfl rfl rfl ?_
    refine ax_call (vs := [.ref 285, .int 21]) (rr := []) rfl rfl rfl ?_
    refine ax_in (ls := [some (.ref 285), some (.int 21)]) rfl ?_
    refine ax_s (pc' := 1) (st' := [.ref 285]) rfl rfl rfl rfl ?_
    refine ax_get rfl (hh_285 _ _ _) rfl rfl rfl ?_
    show am_ex (d + 6) 226 4 [some (.ref 285), some (.int 21)] [.int 4] (am_hh X (am_u (am_u (am_u (am_u (am_u (am_u (am_u (am_u (am_u S 285 20 0) 299 0 12) 285 20 1) 299 1 11) 285 20 2) 299 2 10) 285 20 3) 299 3 24) 285 20 4) L) _
    refine ax_s (pc' := 6) (st' := [.int 16, .int 4]) rfl rfl rfl rfl ?_
    refine ax_cmp_ge rfl (fun c12 => False.elim (by revert c12; decide)) (fun c12 => ?_)
    refine ax_s (pc' := 10) (st' := [.ref 285]) rfl rfl rfl rfl ?_
    refine ax_get rfl (hh_285 _ _ _) rfl rfl rfl ?_
    show am_ex (d + 6) 226 13 [some (.ref 285), some (.int 21)] [.ref 299] (am_hh X (am_u (am_u (am_u (am_u (am_u (am_u (am_u (am_u (am_u S 285 20 0) 299 0 12) 285 20 1) 299 1 11) 285 20 2) 299 2 10) 285 20 3) 299 3 24) 285 20 4) L) _
    refine ax_s (pc' := 14) (st' := [.ref 285, .ref 299]) rfl rfl rfl rfl ?_
    refine ax_get rfl (hh_285 _ _ _) rfl rfl rfl ?_
    show am_ex (d + 6) 226 17 [some (.ref 285), some (.int 21)] [.int 4, .ref 299] (am_hh X (am_u (am_u (am_u (am_u (am_u (am_u (am_u (am_u (am_u S 285 20 0) 299 0 12) 285 20 1) 299 1 11) 285 20 2) 299 2 10) 285 20 3) 299 3 24) 285 20 4) L) _
    refine ax_s (pc' := 18) (st' := [.int 21, .int 4, .ref 299]) rfl rfl rfl rfl ?_
    refine ax_ast (j := 4) rfl (hh_299 _ _ _) rfl rfl (by decide) (by decide) (am_hh_set _ _ _ 299 4 _ rfl) ?_
    refine ax_s (pc' := 20) (st' := [.ref 285]) rfl rfl rfl rfl ?_
    refine ax_s (pc' := 21) (st' := [.ref 285, .ref 285]) rfl rfl rfl rfl ?_
    refine ax_get rfl (hh_285 _ _ _) rfl rfl rfl ?_
    show am_ex (d + 6) 226 24 [some (.ref 285), some (.int 21)] [.int 4, .ref 285] (am_hh X (am_u (am_u (am_u (am_u (am_u (am_u (am_u (am_u (am_u (am_u S 285 20 0) 299 0 12) 285 20 1) 299 1 11) 285 20 2) 299 2 10) 285 20 3) 299 3 24) 285 20 4) 299 4 21) L) _
    refine ax_s (pc' := 25) (st' := [.int 1, .int 4, .ref 285]) rfl rfl rfl rfl ?_
    refine ax_s (pc' := 26) (st' := [.int 5, .ref 285]) rfl rfl rfl rfl ?_
    refine ax_put rfl (hh_285 _ _ _) rfl rfl (show 20 + 1 ≤ _ from Nat.le_of_ble_eq_true rfl) rfl (am_hh_set _ _ _ 285 20 _ rfl) ?_
    refine ax_r rfl rfl rfl ?_
    show am_ex (d + 7) 229 6 [some (.ref 285), some (.int (nI j))] [] (am_hh X (am_u (am_u (am_u (am_u (am_u (am_u (am_u (am_u (am_u (am_u (am_u S 285 20 0) 299 0 12) 285 20 1) 299 1 11) 285 20 2) 299 2 10) 285 20 3) 299 3 24) 285 20 4) 299 4 21) 285 20 5) L) _
    refine ax_s (pc' := 7) (st' := [.ref 285]) rfl rfl rfl rfl ?_
    refine ax_s (pc' := 8) (st' := [.int (nI j), .ref 285]) rfl rfl rfl rfl ?_
    refine ax_call (vs := [.ref 285, .int (nI j)]) (rr := []) rfl rfl rfl ?_
    refine ax_in (ls := [some (.ref 285), some (.int (nI j))]) rfl ?_
    refine ax_s (pc' := 1) (st' := [.ref 285]) rfl rfl rfl rfl ?_
    refine ax_s (pc' := 3) (st' := [.int 20, .ref 285]) rfl rfl rfl rfl ?_
    refine ax_call (vs := [.ref 285, .int 20]) (rr := []) rfl rfl rfl ?_
    refine ax_in (ls := [some (.ref 285), some (.int 20)]) rfl ?_
    refine ax_s (pc' := 1) (st' := [.ref 285]) rfl rfl rfl rfl ?_
    refine ax_get rfl (hh_285 _ _ _) rfl rfl rfl ?_
    show am_ex (d + 5) 226 4 [some (.ref 285), some (.int 20)] [.int 5] (am_hh X (am_u (am_u (am_u (am_u (am_u (am_u (am_u (am_u (am_u (am_u (am_u S 285 20 0) 299 0 12) 285 20 1) 299 1 11) 285 20 2) 299 2 10) 285 20 3) 299 3 24) 285 20 4) 299 4 21) 285 20 5) L) _
    refine ax_s (pc' := 6) (st' := [.int 16, .int 5]) rfl rfl rfl rfl ?_
    refine ax_cmp_ge rfl (fun c13 => False.elim (by revert c13; decide)) (fun c13 => ?_)
    refine ax_s (pc' := 10) (st' := [.ref 285]) rfl rfl rfl rfl ?_
    refine ax_get rfl (hh_285 _ _ _) rfl rfl rfl ?_
    show am_ex (d + 5) 226 13 [some (.ref 285), some (.int 20)] [.ref 299] (am_hh X (am_u (am_u (am_u (am_u (am_u (am_u (am_u (am_u (am_u (am_u (am_u S 285 20 0) 299 0 12) 285 20 1) 299 1 11) 285 20 2) 299 2 10) 285 20 3) 299 3 24) 285 20 4) 299 4 21) 285 20 5) L) _
    refine ax_s (pc' := 14) (st' := [.ref 285, .ref 299]) rfl rfl rfl rfl ?_
    refine ax_get rfl (hh_285 _ _ _) rfl rfl rfl ?_
    show am_ex (d + 5) 226 17 [some (.ref 285), some (.int 20)] [.int 5, .ref 299] (am_hh X (am_u (am_u (am_u (am_u (am_u (am_u (am_u (am_u (am_u (am_u (am_u S 285 20 0) 299 0 12) 285 20 1) 299 1 11) 285 20 2) 299 2 10) 285 20 3) 299 3 24) 285 20 4) 299 4 21) 285 20 5) L) _
    refine ax_s (pc' := 18) (st' := [.int 20, .int 5, .ref 299]) rfl rfl rfl rfl ?_
    refine ax_ast (j := 5) rfl (hh_299 _ _ _) rfl rfl (by decide) (by decide) (am_hh_set _ _ _ 299 5 _ rfl) ?_
    refine ax_s (pc' := 20) (st' := [.ref 285]) rfl rfl rfl rfl ?_
    refine ax_s (pc' := 21) (st' := [.ref 285, .ref 285]) rfl rfl rfl rfl ?_
    refine ax_get rfl (hh_285 _ _ _) rfl rfl rfl ?_
    show am_ex (d + 5) 226 24 [some (.ref 285), some (.int 20)] [.int 5, .ref 285] (am_hh X (am_u (am_u (am_u (am_u (am_u (am_u (am_u (am_u (am_u (am_u (am_u (am_u S 285 20 0) 299 0 12) 285 20 1) 299 1 11) 285 20 2) 299 2 10) 285 20 3) 299 3 24) 285 20 4) 299 4 21) 285 20 5) 299 5 20) L) _
    refine ax_s (pc' := 25) (st' := [.int 1, .int 5, .ref 285]) rfl rfl rfl rfl ?_
    refine ax_s (pc' := 26) (st' := [.int 6, .ref 285]) rfl rfl rfl rfl ?_
    refine ax_put rfl (hh_285 _ _ _) rfl rfl (show 20 + 1 ≤ _ from Nat.le_of_ble_eq_true rfl) rfl (am_hh_set _ _ _ 285 20 _ rfl) ?_
    refine ax_r rfl rfl rfl ?_
    show am_ex (d + 6) 230 6 [some (.ref 285), some (.int (nI j))] [] (am_hh X (am_u (am_u (am_u (am_u (am_u (am_u (am_u (am_u (am_u (am_u (am_u (am_u (am_u S 285 20 0) 299 0 12) 285 20 1) 299 1 11) 285 20 2) 299 2 10) 285 20 3) 299 3 24) 285 20 4) 299 4 21) 285 20 5) 299 5 20) 285 20 6) L) _
    refine ax_s (pc' := 7) (st' := [.int (nI j)]) rfl rfl rfl rfl ?_
    refine ax_r rfl rfl rfl ?_
    show am_ex (d + 7) 229 11 [some (.ref 285), some (.int (nI j))] [.int (nI j)] (am_hh X (am_u (am_u (am_u (am_u (am_u (am_u (am_u (am_u (am_u (am_u (am_u (am_u (am_u S 285 20 0) 299 0 12) 285 20 1) 299 1 11) 285 20 2) 299 2 10) 285 20 3) 299 3 24) 285 20 4) 299 4 21) 285 20 5) 299 5 20) 285 20 6) L) _
    refine ax_s (pc' := 12) (st' := [.ref 285, .int (nI j)]) rfl rfl rfl rfl ?_
    refine ax_get rfl (hh_285 _ _ _) rfl rfl rfl ?_
    show am_ex (d + 7) 229 15 [some (.ref 285), some (.int (nI j))] [.ref 293, .int (nI j)] (am_hh X (am_u (am_u (am_u (am_u (am_u (am_u (am_u (am_u (am_u (am_u (am_u (am_u (am_u S 285 20 0) 299 0 12) 285 20 1) 299 1 11) 285 20 2) 299 2 10) 285 20 3) 299 3 24) 285 20 4) 299 4 21) 285 20 5) 299 5 20) 285 20 6) L) _
    refine ax_s (pc' := 17) (st' := [.int 27, .ref 293, .int (nI j)]) rfl rfl rfl rfl ?_
    refine ax_s (pc' := 18) (st' := [.int (nI j), .int 27, .ref 293, .int (nI j)]) rfl rfl rfl rfl ?_
    refine ax_s (pc' := 19) (st' := [.int (27 + (nI j)), .ref 293, .int (nI j)]) rfl rfl rfl rfl ?_
    refine ax_ald (j := (27 + j)) (v := (S 293 (27 + j))) rfl (hh_293 _ _ _) rfl (am_na (x := 27) (y := j) rfl rfl) (x2 c1) (by decide) rfl ?_
    refine ax_s (pc' := 21) (st' := [.int ((nI j) + (S 293 (27 + j)))]) rfl rfl rfl rfl ?_
    refine ax_r rfl rfl rfl ?_
    show am_ex (d + 8) 228 48 [some (.ref 285), some (.int (nI j))] [.int ((nI j) + (S 293 (27 + j))), .int 2] (am_hh X (am_u (am_u (am_u (am_u (am_u (am_u (am_u (am_u (am_u (am_u (am_u (am_u (am_u S 285 20 0) 299 0 12) 285 20 1) 299 1 11) 285 20 2) 299 2 10) 285 20 3) 299 3 24) 285 20 4) 299 4 21) 285 20 5) 299 5 20) 285 20 6) L) _
    refine ax_s (pc' := 49) (st' := [.int (2 * ((nI j) + (S 293 (27 + j))))]) rfl rfl rfl rfl ?_
    refine ax_r rfl rfl rfl ?_
    show am_ex (d + 9) 225 32 [some (.ref 285), some (.int (nI j)), none] [.int (2 * ((nI j) + (S 293 (27 + j)))), .int (S 291 j)] (am_hh X (am_u (am_u (am_u (am_u (am_u (am_u (am_u (am_u (am_u (am_u (am_u (am_u (am_u S 285 20 0) 299 0 12) 285 20 1) 299 1 11) 285 20 2) 299 2 10) 285 20 3) 299 3 24) 285 20 4) 299 4 21) 285 20 5) 299 5 20) 285 20 6) L) _
    refine ax_s (pc' := 33) (st' := [.int ((S 291 j) + (2 * ((nI j) + (S 293 (27 + j)))))]) rfl rfl rfl rfl ?_
    refine ax_s (pc' := 34) (ls' := [some (.ref 285), some (.int (nI j)), some (.int ((S 291 j) + (2 * ((nI j) + (S 293 (27 + j))))))]) (st' := []) rfl rfl rfl rfl ?_
    refine ax_s (pc' := 35) (st' := [.ref 285]) rfl rfl rfl rfl ?_
    refine ax_get rfl (hh_285 _ _ _) rfl rfl rfl ?_
    show am_ex (d + 9) 225 38 [some (.ref 285), some (.int (nI j)), some (.int ((S 291 j) + (2 * ((nI j) + (S 293 (27 + j))))))] [.ref 290] (am_hh X (am_u (am_u (am_u (am_u (am_u (am_u (am_u (am_u (am_u (am_u (am_u (am_u (am_u S 285 20 0) 299 0 12) 285 20 1) 299 1 11) 285 20 2) 299 2 10) 285 20 3) 299 3 24) 285 20 4) 299 4 21) 285 20 5) 299 5 20) 285 20 6) L) _
    refine ax_s (pc' := 39) (st' := [.int (nI j), .ref 290]) rfl rfl rfl rfl ?_
    refine ax_ald (j := j) (v := 2) rfl (hh_290 _ _ _) rfl rfl (x1 c1) (by decide) hk ?_
    refine ax_s (pc' := 41) (st' := [.int 2, .int 2]) rfl rfl rfl rfl ?_
    refine ax_cmp_ne rfl (fun c14 => False.elim (by revert c14; decide)) (fun c14 => ?_)
    refine ax_s (pc' := 45) (st' := [.int ((S 291 j) + (2 * ((nI j) + (S 293 (27 + j)))))]) rfl rfl rfl rfl ?_
    refine ax_s (pc' := 46) (st' := [.int (-((S 291 j) + (2 * ((nI j) + (S 293 (27 + j))))))]) rfl rfl rfl rfl ?_
    refine ax_s (pc' := 50) (st' := [.int (-((S 291 j) + (2 * ((nI j) + (S 293 (27 + j))))))]) rfl rfl rfl rfl ?_
    refine ax_r rfl rfl rfl ?_
    show am_ex (d + 10) 224 44 [some (.ref 285), some (.int (nI j)), some (.int 0)] [.int (-((S 291 j) + (2 * ((nI j) + (S 293 (27 + j))))))] (am_hh X (am_u (am_u (am_u (am_u (am_u (am_u (am_u (am_u (am_u (am_u (am_u (am_u (am_u S 285 20 0) 299 0 12) 285 20 1) 299 1 11) 285 20 2) 299 2 10) 285 20 3) 299 3 24) 285 20 4) 299 4 21) 285 20 5) 299 5 20) 285 20 6) L) _
    refine ax_s (pc' := 52) (st' := [.int (-((S 291 j) + (2 * ((nI j) + (S 293 (27 + j))))))]) rfl rfl rfl rfl ?_
    refine ax_r rfl rfl rfl ?_
    exact k2 c1
theorem wk_ask_2_1 {d : Nat} {X : Nat × (Nat → Int32)} {S : Nat → Nat → Int32} {L : Nat → Int64} {j : Nat} {Q : Option Value → am_H → Prop} (hk : S 22 j = 2) (hj : j < 6)  (x1 : ¬ (nI j) < 0 ∧ ¬ (S 20 4) ≤ (nI j) → j < 6) (k1 : ¬ (¬ (nI j) < 0 ∧ ¬ (S 20 4) ≤ (nI j)) → Q (some (.int (-1000001))) (am_hh X S L)) (k2 : ¬ (nI j) < 0 ∧ ¬ (S 20 4) ≤ (nI j) → Q (some (.int (2 * ((nI j) + (S 27 j))))) (am_hh X (am_u (am_u (am_u (am_u (am_u (am_u (am_u S 283 2 0) 284 0 24) 283 2 1) 284 1 21) 283 2 2) 284 2 20) 283 2 3) L)) : am_mt (d + 30) 136 [.ref 5, .int (nI j), .int 1] (am_hh X S L) Q := by
  refine ax_in (ls := [some (.ref 5), some (.int (nI j)), some (.int 1)]) rfl ?_
  refine ax_s (pc' := 1) (st' := [.ref 5]) rfl rfl rfl rfl ?_
  refine ax_get rfl (hh_5 _ _ _) rfl rfl rfl ?_
  show am_ex (d + 30) 136 4 [some (.ref 5), some (.int (nI j)), some (.int 1)] [.ref 20] (am_hh X S L) _
  refine ax_s (pc' := 5) (st' := [.int (nI j), .ref 20]) rfl rfl rfl rfl ?_
  refine ax_call (vs := [.ref 20, .int (nI j)]) (rr := []) rfl rfl rfl ?_
  refine kw (am_hh_sub isW20 X S L) (am_hh_sub isW20 X S L).symm (fun _ => ct_hasParty (am_isW_k isW20 X S L)) ?_
  show am_ex (d + 30) 136 8 [some (.ref 5), some (.int (nI j)), some (.int 1)] [.int (bI (decide (¬ (nI j) < 0 ∧ ¬ (S 20 4) ≤ (nI j))))] (am_hh X S L) _
  refine ax_pF rfl (fun c1 => ?_) (fun c1 => ?_)
  · refine ax_s (pc' := 22) (st' := [.int (-1000001)]) rfl rfl rfl rfl ?_
    refine ax_r rfl rfl rfl ?_
    exact k1 c1
  · refine ax_s (pc' := 12) (st' := [.int 1]) rfl rfl rfl rfl ?_
    refine ax_s (pc' := 13) (st' := [.int 0, .int 1]) rfl rfl rfl rfl ?_
    refine ax_s (pc' := 14) (st' := [.int 1, .int 0, .int 1]) rfl rfl rfl rfl ?_
    refine ax_call (vs := [.int 1, .int 0, .int 1]) (rr := []) rfl rfl rfl ?_
    refine ct_isOutside ?_
    show am_ex (d + 30) 136 17 [some (.ref 5), some (.int (nI j)), some (.int 1)] [.int 0] (am_hh X S L) _
    refine ax_if_eq rfl (fun c2 => ?_) (fun c2 => False.elim (by revert c2; decide))
    refine ax_s (pc' := 24) (st' := [.ref 5]) rfl rfl rfl rfl ?_
    refine ax_get rfl (hh_5 _ _ _) rfl rfl rfl ?_
    show am_ex (d + 30) 136 27 [some (.ref 5), some (.int (nI j)), some (.int 1)] [.ref 283] (am_hh X S L) _
    refine ax_s (pc' := 28) (st' := [.int (nI j), .ref 283]) rfl rfl rfl rfl ?_
    refine ax_s (pc' := 29) (st' := [.int 1, .int (nI j), .ref 283]) rfl rfl rfl rfl ?_
    refine ax_call (vs := [.ref 283, .int (nI j), .int 1]) (rr := []) rfl rfl rfl ?_
    refine ax_in (ls := [some (.ref 283), some (.int (nI j)), some (.int 1)]) rfl ?_
    refine ax_s (pc' := 1) (st' := [.ref 283]) rfl rfl rfl rfl ?_
    refine ax_s (pc' := 2) (st' := [.int 0, .ref 283]) rfl rfl rfl rfl ?_
    refine ax_put rfl (hh_283 _ _ _) rfl rfl (show 2 + 1 ≤ _ from Nat.le_of_ble_eq_true rfl) rfl (am_hh_set _ _ _ 283 2 _ rfl) ?_
    refine ax_s (pc' := 6) (st' := [.ref 283]) rfl rfl rfl rfl ?_
    refine ax_s (pc' := 7) (st' := [.int (nI j), .ref 283]) rfl rfl rfl rfl ?_
    refine ax_s (pc' := 8) (st' := [.int 1, .int (nI j), .ref 283]) rfl rfl rfl rfl ?_
    refine ax_s (pc' := 9) (st' := [.int 0, .int 1, .int (nI j), .ref 283]) rfl rfl rfl rfl ?_
    refine ax_call (vs := [.ref 283, .int (nI j), .int 1, .int 0]) (rr := []) rfl rfl rfl ?_
    refine ax_in (ls := [some (.ref 283), some (.int (nI j)), some (.int 1), some (.int 0)]) rfl ?_
    refine ax_s (pc' := 1) (st' := [.ref 283]) rfl rfl rfl rfl ?_
    refine ax_s (pc' := 2) (st' := [.ref 283, .ref 283]) rfl rfl rfl rfl ?_
    refine ax_get rfl (hh_283 _ _ _) rfl rfl rfl ?_
    show am_ex (d + 28) 137 5 [some (.ref 283), some (.int (nI j)), some (.int 1), some (.int 0)] [.ref 20, .ref 283] (am_hh X (am_u S 283 2 0) L) _
    refine ax_get rfl (hh_20 _ _ _) rfl rfl rfl ?_
    show am_ex (d + 28) 137 8 [some (.ref 283), some (.int (nI j)), some (.int 1), some (.int 0)] [.ref 22, .ref 283] (am_hh X (am_u S 283 2 0) L) _
    refine ax_s (pc' := 9) (st' := [.int (nI j), .ref 22, .ref 283]) rfl rfl rfl rfl ?_
    refine ax_ald (j := j) (v := 2) rfl (hh_22 _ _ _) rfl rfl (x1 c1) (by decide) hk ?_
    refine ax_s (pc' := 11) (st' := [.int 1, .int 2, .ref 283]) rfl rfl rfl rfl ?_
    refine ax_if_ne rfl (fun c3 => ?_) (fun c3 => False.elim (by revert c3; decide))
    refine ax_s (pc' := 23) (st' := [.ref 4, .int 2, .ref 283]) rfl rfl rfl rfl ?_
    refine ax_call (vs := [.int 2, .ref 4]) (rr := [.ref 283]) rfl rfl rfl ?_
    refine ax_in (ls := [some (.int 2), some (.ref 4), none, none]) rfl ?_
    refine ax_s (pc' := 1) (st' := [.int 2]) rfl rfl rfl rfl ?_
    refine ax_s (pc' := 2) (ls' := [some (.int 2), some (.ref 4), some (.int 2), none]) (st' := []) rfl rfl rfl rfl ?_
    refine ax_s (pc' := 3) (st' := [.int 0]) rfl rfl rfl rfl ?_
    refine ax_s (pc' := 4) (ls' := [some (.int 2), some (.ref 4), some (.int 2), some (.int 0)]) (st' := []) rfl rfl rfl rfl ?_
    refine ax_s (pc' := 5) (st' := [.int 0]) rfl rfl rfl rfl ?_
    refine ax_s (pc' := 6) (st' := [.int 5, .int 0]) rfl rfl rfl rfl ?_
    refine ax_cmp_gt rfl (fun c4 => False.elim (by revert c4; decide)) (fun c4 => ?_)
    refine ax_s (pc' := 10) (st' := [.int 2]) rfl rfl rfl rfl ?_
    refine ax_call (vs := [.int 2]) (rr := []) rfl rfl rfl ?_
    refine ax_in (ls := [some (.int 2)]) rfl ?_
    refine ax_s (pc' := 1) (st' := [.int 2]) rfl rfl rfl rfl ?_
    refine ax_if_lt rfl (fun c5 => False.elim (by revert c5; decide)) (fun c5 => ?_)
    refine ax_s (pc' := 5) (st' := [.int 2]) rfl rfl rfl rfl ?_
    refine ax_s (pc' := 6) (st' := [.int 5, .int 2]) rfl rfl rfl rfl ?_
    refine ax_cmp_gt rfl (fun c6 => False.elim (by revert c6; decide)) (fun c6 => ?_)
    refine ax_s (pc' := 10) (st' := [.int 1]) rfl rfl rfl rfl ?_
    refine ax_s (pc' := 14) (st' := [.int 1]) rfl rfl rfl rfl ?_
    refine ax_rb (b := true) rfl rfl ?_
    show am_ex (d + 27) 138 13 [some (.int 2), some (.ref 4), some (.int 2), some (.int 0)] [.int 1] (am_hh X (am_u S 283 2 0) L) _
    refine ax_if_eq rfl (fun c7 => False.elim (by revert c7; decide)) (fun c7 => ?_)
    refine ax_s (pc' := 17) (st' := [.ref 4]) rfl rfl rfl rfl ?_
    refine ax_s (pc' := 18) (st' := [.int 2, .ref 4]) rfl rfl rfl rfl ?_
    refine ax_ald (j := 2) (v := 24) rfl (hh_s4 _ _ _) rfl rfl (by decide) (by decide) rfl ?_
    refine ax_s (pc' := 21) (st' := [.int (-1000000), .int 24]) rfl rfl rfl rfl ?_
    refine ax_cmp_eq rfl (fun c8 => False.elim (by revert c8; decide)) (fun c8 => ?_)
    refine ax_s (pc' := 25) (st' := [.ref 4]) rfl rfl rfl rfl ?_
    refine ax_s (pc' := 26) (st' := [.int 2, .ref 4]) rfl rfl rfl rfl ?_
    refine ax_ald (j := 2) (v := 24) rfl (hh_s4 _ _ _) rfl rfl (by decide) (by decide) rfl ?_
    refine ax_r rfl rfl rfl ?_
    show am_ex (d + 28) 137 26 [some (.ref 283), some (.int (nI j)), some (.int 1), some (.int 0)] [.int 24, .ref 283] (am_hh X (am_u S 283 2 0) L) _
    refine ax_s (pc' := 27) (st' := [.int (nI j), .int 24, .ref 283]) rfl rfl rfl rfl ?_
    refine ax_s (pc' := 28) (st' := [.int 0, .int (nI j), .int 24, .ref 283]) rfl rfl rfl rfl ?_
    refine ax_call (vs := [.ref 283, .int 24, .int (nI j), .int 0]) (rr := []) rfl rfl rfl ?_
    refine ax_in (ls := [some (.ref 283), some (.int 24), some (.int (nI j)), some (.int 0), none]) rfl ?_
    refine ax_s (pc' := 1) (st' := [.int 0]) rfl rfl rfl rfl ?_
    refine ax_s (pc' := 3) (st' := [.int 16, .int 0]) rfl rfl rfl rfl ?_
    refine ax_cmp_le rfl (fun c9 => ?_) (fun c9 => False.elim (by revert c9; decide))
    refine ax_s (pc' := 10) (st' := [.ref 283]) rfl rfl rfl rfl ?_
    refine ax_s (pc' := 11) (st' := [.int 24, .ref 283]) rfl rfl rfl rfl ?_
    refine ax_call (vs := [.ref 283, .int 24]) (rr := []) rfl rfl rfl ?_
    refine ax_in (ls := [some (.ref 283), some (.int 24)]) rfl ?_
    refine ax_s (pc' := 1) (st' := [.ref 283]) rfl rfl rfl rfl ?_
    refine ax_get rfl (hh_283 _ _ _) rfl rfl rfl ?_
    show am_ex (d + 26) 140 4 [some (.ref 283), some (.int 24)] [.int 0] (am_hh X (am_u S 283 2 0) L) _
    refine ax_if_lt rfl (fun c10 => False.elim (by revert c10; decide)) (fun c10 => ?_)
    refine ax_s (pc' := 8) (st' := [.ref 283]) rfl rfl rfl rfl ?_
    refine ax_get rfl (hh_283 _ _ _) rfl rfl rfl ?_
    show am_ex (d + 26) 140 11 [some (.ref 283), some (.int 24)] [.int 0] (am_hh X (am_u S 283 2 0) L) _
    refine ax_s (pc' := 13) (st' := [.int 16, .int 0]) rfl rfl rfl rfl ?_
    refine ax_cmp_ge rfl (fun c11 => False.elim (by revert c11; decide)) (fun c11 => ?_)
    refine ax_s (pc' := 17) (st' := [.ref 283]) rfl rfl rfl rfl ?_
    refine ax_get rfl (hh_283 _ _ _) rfl rfl rfl ?_
    show am_ex (d + 26) 140 20 [some (.ref 283), some (.int 24)] [.ref 284] (am_hh X (am_u S 283 2 0) L) _
    refine ax_s (pc' := 21) (st' := [.ref 283, .ref 284]) rfl rfl rfl rfl ?_
    refine ax_get rfl (hh_283 _ _ _) rfl rfl rfl ?_
    show am_ex (d + 26) 140 24 [some (.ref 283), some (.int 24)] [.int 0, .ref 284] (am_hh X (am_u S 283 2 0) L) _
    refine ax_s (pc' := 25) (st' := [.int 24, .int 0, .ref 284]) rfl rfl rfl rfl ?_
    refine ax_ast (j := 0) rfl (hh_284 _ _ _) rfl rfl (by decide) (by decide) (am_hh_set _ _ _ 284 0 _ rfl) ?_
    refine ax_s (pc' := 27) (st' := [.ref 283]) rfl rfl rfl rfl ?_
    refine ax_s (pc' := 28) (st' := [.ref 283, .ref 283]) rfl rfl rfl rfl ?_
    refine ax_get rfl (hh_283 _ _ _) rfl rfl rfl ?_
    show am_ex (d + 26) 140 31 [some (.ref 283), some (.int 24)] [.int 0, .ref 283] (am_hh X (am_u (am_u S 283 2 0) 284 0 24) L) _
    refine ax_s (pc' := 32) (st' := [.int 1, .int 0, .ref 283]) rfl rfl rfl rfl ?_
    refine ax_s (pc' := 33) (st' := [.int 1, .ref 283]) rfl rfl rfl rfl ?_
    refine ax_put rfl (hh_283 _ _ _) rfl rfl (show 2 + 1 ≤ _ from Nat.le_of_ble_eq_true rfl) rfl (am_hh_set _ _ _ 283 2 _ rfl) ?_
    refine ax_r rfl rfl rfl ?_
    show am_ex (d + 27) 139 14 [some (.ref 283), some (.int 24), some (.int (nI j)), some (.int 0), none] [] (am_hh X (am_u (am_u (am_u S 283 2 0) 284 0 24) 283 2 1) L) _
    refine ax_s (pc' := 15) (st' := [.int 0]) rfl rfl rfl rfl ?_
    refine ax_s (pc' := 16) (st' := [.int 1, .int 0]) rfl rfl rfl rfl ?_
    refine ax_s (pc' := 17) (st' := [.int 1]) rfl rfl rfl rfl ?_
    refine ax_s (pc' := 19) (ls' := [some (.ref 283), some (.int 24), some (.int (nI j)), some (.int 0), some (.int 1)]) (st' := []) rfl rfl rfl rfl ?_
    refine ax_s (pc' := 20) (st' := [.int 24]) rfl rfl rfl rfl ?_
    refine ax_s (pc' := 217) (ls' := [some (.ref 283), some (.int 24), some (.int (nI j)), some (.int 0), some (.int 1)]) (st' := []) (h1 := (am_hh X (am_u (am_u (am_u S 283 2 0) 284 0 24) 283 2 1) L)) rfl rfl rfl rfl ?_
    refine ax_s (pc' := 218) (st' := [.int 2]) rfl rfl rfl rfl ?_
    refine ax_s (pc' := 219) (st' := [.ref 283, .int 2]) rfl rfl rfl rfl ?_
    refine ax_s (pc' := 221) (st' := [.int 21, .ref 283, .int 2]) rfl rfl rfl rfl ?_
    refine ax_s (pc' := 222) (st' := [.int (nI j), .int 21, .ref 283, .int 2]) rfl rfl rfl rfl ?_
    refine ax_s (pc' := 224) (st' := [.int 1, .int (nI j), .int 21, .ref 283, .int 2]) rfl rfl rfl rfl ?_
    refine ax_call (vs := [.ref 283, .int 21, .int (nI j), .int 1]) (rr := [.int 2]) rfl rfl rfl ?_
    refine ax_in (ls := [some (.ref 283), some (.int 21), some (.int (nI j)), some (.int 1), none]) rfl ?_
    refine ax_s (pc' := 1) (st' := [.int 1]) rfl rfl rfl rfl ?_
    refine ax_s (pc' := 3) (st' := [.int 16, .int 1]) rfl rfl rfl rfl ?_
    refine ax_cmp_le rfl (fun c12 => ?_) (fun c12 => False.elim (by revert c12; decide))
    refine ax_s (pc' := 10) (st' := [.ref 283]) rfl rfl rfl rfl ?_
    refine ax_s (pc' := 11) (st' := [.int 21, .ref 283]) rfl rfl rfl rfl ?_
    refine ax_call (vs := [.ref 283, .int 21]) (rr := []) rfl rfl rfl ?_
    refine ax_in (ls := [some (.ref 283), some (.int 21)]) rfl ?_
    refine ax_s (pc' := 1) (st' := [.ref 283]) rfl rfl rfl rfl ?_
    refine ax_get rfl (hh_283 _ _ _) rfl rfl rfl ?_
    show am_ex (d + 25) 140 4 [some (.ref 283), some (.int 21)] [.int 1] (am_hh X (am_u (am_u (am_u S 283 2 0) 284 0 24) 283 2 1) L) _
    refine ax_if_lt rfl (fun c13 => False.elim (by revert c13; decide)) (fun c13 => ?_)
    refine ax_s (pc' := 8) (st' := [.ref 283]) rfl rfl rfl rfl ?_
    refine ax_get rfl (hh_283 _ _ _) rfl rfl rfl ?_
    show am_ex (d + 25) 140 11 [some (.ref 283), some (.int 21)] [.int 1] (am_hh X (am_u (am_u (am_u S 283 2 0) 284 0 24) 283 2 1) L) _
    refine ax_s (pc' := 13) (st' := [.int 16, .int 1]) rfl rfl rfl rfl ?_
    refine ax_cmp_ge rfl (fun c14 => False.elim (by revert c14; decide)) (fun c14 => ?_)
    refine ax_s (pc' := 17) (st' := [.ref 283]) rfl rfl rfl rfl ?_
    refine ax_get rfl (hh_283 _ _ _) rfl rfl rfl ?_
    show am_ex (d + 25) 140 20 [some (.ref 283), some (.int 21)] [.ref 284] (am_hh X (am_u (am_u (am_u S 283 2 0) 284 0 24) 283 2 1) L) _
    refine ax_s (pc' := 21) (st' := [.ref 283, .ref 284]) rfl rfl rfl rfl ?_
    refine ax_get rfl (hh_283 _ _ _) rfl rfl rfl ?_
    show am_ex (d + 25) 140 24 [some (.ref 283), some (.int 21)] [.int 1, .ref 284] (am_hh X (am_u (am_u (am_u S 283 2 0) 284 0 24) 283 2 1) L) _
    refine ax_s (pc' := 25) (st' := [.int 21, .int 1, .ref 284]) rfl rfl rfl rfl ?_
    refine ax_ast (j := 1) rfl (hh_284 _ _ _) rfl rfl (by decide) (by decide) (am_hh_set _ _ _ 284 1 _ rfl) ?_
    refine ax_s (pc' := 27) (st' := [.ref 283]) rfl rfl rfl rfl ?_
    refine ax_s (pc' := 28) (st' := [.ref 283, .ref 283]) rfl rfl rfl rfl ?_
    refine ax_get rfl (hh_283 _ _ _) rfl rfl rfl ?_
    show am_ex (d + 25) 140 31 [some (.ref 283), some (.int 21)] [.int 1, .ref 283] (am_hh X (am_u (am_u (am_u (am_u S 283 2 0) 284 0 24) 283 2 1) 284 1 21) L) _
    refine ax_s (pc' := 32) (st' := [.int 1, .int 1, .ref 283]) rfl rfl rfl rfl ?_
    refine ax_s (pc' := 33) (st' := [.int 2, .ref 283]) rfl rfl rfl rfl ?_
    refine ax_put rfl (hh_283 _ _ _) rfl rfl (show 2 + 1 ≤ _ from Nat.le_of_ble_eq_true rfl) rfl (am_hh_set _ _ _ 283 2 _ rfl) ?_
    refine ax_r rfl rfl rfl ?_
    show am_ex (d + 26) 139 14 [some (.ref 283), some (.int 21), some (.int (nI j)), some (.int 1), none] [] (am_hh X (am_u (am_u (am_u (am_u (am_u S 283 2 0) 284 0 24) 283 2 1) 284 1 21) 283 2 2) L) _
    refine ax_s (pc' := 15) (st' := [.int 1]) rfl rfl rfl rfl ?_
    refine ax_s (pc' := 16) (st' := [.int 1, .int 1]) rfl rfl rfl rfl ?_
    refine ax_s (pc' := 17) (st' := [.int 2]) rfl rfl rfl rfl ?_
    refine ax_s (pc' := 19) (ls' := [some (.ref 283), some (.int 21), some (.int (nI j)), some (.int 1), some (.int 2)]) (st' := []) rfl rfl rfl rfl ?_
    refine ax_s (pc' := 20) (st' := [.int 21]) rfl rfl rfl rfl ?_
    refine ax_s (pc' := 164) (ls' := [some (.ref 283), some (.int 21), some (.int (nI j)), some (.int 1), some (.int 2)]) (st' := []) (h1 := (am_hh X (am_u (am_u (am_u (am_u (am_u S 283 2 0) 284 0 24) 283 2 1) 284 1 21) 283 2 2) L)) rfl rfl rfl rfl ?_
    refine ax_s (pc' := 165) (st' := [.ref 283]) rfl rfl rfl rfl ?_
    refine ax_s (pc' := 167) (st' := [.int 20, .ref 283]) rfl rfl rfl rfl ?_
    refine ax_s (pc' := 168) (st' := [.int (nI j), .int 20, .ref 283]) rfl rfl rfl rfl ?_
    refine ax_s (pc' := 170) (st' := [.int 2, .int (nI j), .int 20, .ref 283]) rfl rfl rfl rfl ?_
    refine ax_call (vs := [.ref 283, .int 20, .int (nI j), .int 2]) (rr := []) rfl rfl rfl ?_
    refine ax_in (ls := [some (.ref 283), some (.int 20), some (.int (nI j)), some (.int 2), none]) rfl ?_
    refine ax_s (pc' := 1) (st' := [.int 2]) rfl rfl rfl rfl ?_
    refine ax_s (pc' := 3) (st' := [.int 16, .int 2]) rfl rfl rfl rfl ?_
    refine ax_cmp_le rfl (fun c15 => ?_) (fun c15 => False.elim (by revert c15; decide))
    refine ax_s (pc' := 10) (st' := [.ref 283]) rfl rfl rfl rfl ?_
    refine ax_s (pc' := 11) (st' := [.int 20, .ref 283]) rfl rfl rfl rfl ?_
    refine ax_call (vs := [.ref 283, .int 20]) (rr := []) rfl rfl rfl ?_
    refine ax_in (ls := [some (.ref 283), some (.int 20)]) rfl ?_
    refine ax_s (pc' := 1) (st' := [.ref 283]) rfl rfl rfl rfl ?_
    refine ax_get rfl (hh_283 _ _ _) rfl rfl rfl ?_
    show am_ex (d + 24) 140 4 [some (.ref 283), some (.int 20)] [.int 2] (am_hh X (am_u (am_u (am_u (am_u (am_u S 283 2 0) 284 0 24) 283 2 1) 284 1 21) 283 2 2) L) _
    refine ax_if_lt rfl (fun c16 => False.elim (by revert c16; decide)) (fun c16 => ?_)
    refine ax_s (pc' := 8) (st' := [.ref 283]) rfl rfl rfl rfl ?_
    refine ax_get rfl (hh_283 _ _ _) rfl rfl rfl ?_
    show am_ex (d + 24) 140 11 [some (.ref 283), some (.int 20)] [.int 2] (am_hh X (am_u (am_u (am_u (am_u (am_u S 283 2 0) 284 0 24) 283 2 1) 284 1 21) 283 2 2) L) _
    refine ax_s (pc' := 13) (st' := [.int 16, .int 2]) rfl rfl rfl rfl ?_
    refine ax_cmp_ge rfl (fun c17 => False.elim (by revert c17; decide)) (fun c17 => ?_)
    refine ax_s (pc' := 17) (st' := [.ref 283]) rfl rfl rfl rfl ?_
    refine ax_get rfl (hh_283 _ _ _) rfl rfl rfl ?_
    show am_ex (d + 24) 140 20 [some (.ref 283), some (.int 20)] [.ref 284] (am_hh X (am_u (am_u (am_u (am_u (am_u S 283 2 0) 284 0 24) 283 2 1) 284 1 21) 283 2 2) L) _
    refine ax_s (pc' := 21) (st' := [.ref 283, .ref 284]) rfl rfl rfl rfl ?_
    refine ax_get rfl (hh_283 _ _ _) rfl rfl rfl ?_
    show am_ex (d + 24) 140 24 [some (.ref 283), some (.int 20)] [.int 2, .ref 284] (am_hh X (am_u (am_u (am_u (am_u (am_u S 283 2 0) 284 0 24) 283 2 1) 284 1 21) 283 2 2) L) _
    refine ax_s (pc' := 25) (st' := [.int 20, .int 2, .ref 284]) rfl rfl rfl rfl ?_
    refine ax_ast (j := 2) rfl (hh_284 _ _ _) rfl rfl (by decide) (by decide) (am_hh_set _ _ _ 284 2 _ rfl) ?_
    refine ax_s (pc' := 27) (st' := [.ref 283]) rfl rfl rfl rfl ?_
    refine ax_s (pc' := 28) (st' := [.ref 283, .ref 283]) rfl rfl rfl rfl ?_
    refine ax_get rfl (hh_283 _ _ _) rfl rfl rfl ?_
    show am_ex (d + 24) 140 31 [some (.ref 283), some (.int 20)] [.int 2, .ref 283] (am_hh X (am_u (am_u (am_u (am_u (am_u (am_u S 283 2 0) 284 0 24) 283 2 1) 284 1 21) 283 2 2) 284 2 20) L) _
    refine ax_s (pc' := 32) (st' := [.int 1, .int 2, .ref 283]) rfl rfl rfl rfl ?_
    refine ax_s (pc' := 33) (st' := [.int 3, .ref 283]) rfl rfl rfl rfl ?_
    refine ax_put rfl (hh_283 _ _ _) rfl rfl (show 2 + 1 ≤ _ from Nat.le_of_ble_eq_true rfl) rfl (am_hh_set _ _ _ 283 2 _ rfl) ?_
    refine ax_r rfl rfl rfl ?_
    show am_ex (d + 25) 139 14 [some (.ref 283), some (.int 20), some (.int (nI j)), some (.int 2), none] [] (am_hh X (am_u (am_u (am_u (am_u (am_u (am_u (am_u S 283 2 0) 284 0 24) 283 2 1) 284 1 21) 283 2 2) 284 2 20) 283 2 3) L) _
    refine ax_s (pc' := 15) (st' := [.int 2]) rfl rfl rfl rfl ?_
    refine ax_s (pc' := 16) (st' := [.int 1, .int 2]) rfl rfl rfl rfl ?_
    refine ax_s (pc' := 17) (st' := [.int 3]) rfl rfl rfl rfl ?_
    refine ax_s (pc' := 19) (ls' := [some (.ref 283), some (.int 20), some (.int (nI j)), some (.int 2), some (.int 3)]) (st' := []) rfl rfl rfl rfl ?_
    refine ax_s (pc' := 20) (st' := [.int 20]) rfl rfl rfl rfl ?_
    refine ax_s (pc' := 162) (ls' := [some (.ref 283), some (.int 20), some (.int (nI j)), some (.int 2), some (.int 3)]) (st' := []) (h1 := (am_hh X (am_u (am_u (am_u (am_u (am_u (am_u (am_u S 283 2 0) 284 0 24) 283 2 1) 284 1 21) 283 2 2) 284 2 20) 283 2 3) L)) rfl rfl rfl rfl ?_
    refine ax_s (pc' := 163) (st' := [.int (nI j)]) rfl rfl rfl rfl ?_
    refine ax_r rfl rfl rfl ?_
    show am_ex (d + 26) 139 173 [some (.ref 283), some (.int 21), some (.int (nI j)), some (.int 1), some (.int 2)] [.int (nI j)] (am_hh X (am_u (am_u (am_u (am_u (am_u (am_u (am_u S 283 2 0) 284 0 24) 283 2 1) 284 1 21) 283 2 2) 284 2 20) 283 2 3) L) _
    refine ax_s (pc' := 174) (st' := [.ref 283, .int (nI j)]) rfl rfl rfl rfl ?_
    refine ax_get rfl (hh_283 _ _ _) rfl rfl rfl ?_
    show am_ex (d + 26) 139 177 [some (.ref 283), some (.int 21), some (.int (nI j)), some (.int 1), some (.int 2)] [.ref 20, .int (nI j)] (am_hh X (am_u (am_u (am_u (am_u (am_u (am_u (am_u S 283 2 0) 284 0 24) 283 2 1) 284 1 21) 283 2 2) 284 2 20) 283 2 3) L) _
    refine ax_get rfl (hh_20 _ _ _) rfl rfl rfl ?_
    show am_ex (d + 26) 139 180 [some (.ref 283), some (.int 21), some (.int (nI j)), some (.int 1), some (.int 2)] [.ref 27, .int (nI j)] (am_hh X (am_u (am_u (am_u (am_u (am_u (am_u (am_u S 283 2 0) 284 0 24) 283 2 1) 284 1 21) 283 2 2) 284 2 20) 283 2 3) L) _
    refine ax_s (pc' := 181) (st' := [.int (nI j), .ref 27, .int (nI j)]) rfl rfl rfl rfl ?_
    refine ax_ald (j := j) (v := (S 27 j)) rfl (hh_27 _ _ _) rfl rfl (x1 c1) (by decide) rfl ?_
    refine ax_s (pc' := 183) (st' := [.int ((nI j) + (S 27 j))]) rfl rfl rfl rfl ?_
    refine ax_r rfl rfl rfl ?_
    show am_ex (d + 27) 139 227 [some (.ref 283), some (.int 24), some (.int (nI j)), some (.int 0), some (.int 1)] [.int ((nI j) + (S 27 j)), .int 2] (am_hh X (am_u (am_u (am_u (am_u (am_u (am_u (am_u S 283 2 0) 284 0 24) 283 2 1) 284 1 21) 283 2 2) 284 2 20) 283 2 3) L) _
    refine ax_s (pc' := 228) (st' := [.int (2 * ((nI j) + (S 27 j)))]) rfl rfl rfl rfl ?_
    refine ax_r rfl rfl rfl ?_
    show am_ex (d + 28) 137 31 [some (.ref 283), some (.int (nI j)), some (.int 1), some (.int 0)] [.int (2 * ((nI j) + (S 27 j)))] (am_hh X (am_u (am_u (am_u (am_u (am_u (am_u (am_u S 283 2 0) 284 0 24) 283 2 1) 284 1 21) 283 2 2) 284 2 20) 283 2 3) L) _
    refine ax_r rfl rfl rfl ?_
    show am_ex (d + 29) 238 12 [some (.ref 283), some (.int (nI j)), some (.int 1)] [.int (2 * ((nI j) + (S 27 j)))] (am_hh X (am_u (am_u (am_u (am_u (am_u (am_u (am_u S 283 2 0) 284 0 24) 283 2 1) 284 1 21) 283 2 2) 284 2 20) 283 2 3) L) _
    refine ax_r rfl rfl rfl ?_
    show am_ex (d + 30) 136 32 [some (.ref 5), some (.int (nI j)), some (.int 1)] [.int (2 * ((nI j) + (S 27 j)))] (am_hh X (am_u (am_u (am_u (am_u (am_u (am_u (am_u S 283 2 0) 284 0 24) 283 2 1) 284 1 21) 283 2 2) 284 2 20) 283 2 3) L) _
    refine ax_r rfl rfl rfl ?_
    exact k2 c1
theorem wm_ask_2_1 {d : Nat} {X : Nat × (Nat → Int32)} {S : Nat → Nat → Int32} {L : Nat → Int64} {j : Nat} {Q : Option Value → am_H → Prop} (hk : S 290 j = 2) (hj : j < 6)  (x1 : ¬ (nI j) < 0 ∧ ¬ (S 285 7) - 1 < (nI j) → j < 6) (x2 : ¬ (nI j) < 0 ∧ ¬ (S 285 7) - 1 < (nI j) → (27 + j) < 39) (k1 : ¬ (¬ (nI j) < 0 ∧ ¬ (S 285 7) - 1 < (nI j)) → Q (some (.int (-1000001))) (am_hh X S L)) (k2 : ¬ (nI j) < 0 ∧ ¬ (S 285 7) - 1 < (nI j) → Q (some (.int (2 * ((nI j) + (S 293 (27 + j)))))) (am_hh X (am_u (am_u (am_u (am_u (am_u (am_u (am_u S 285 20 0) 299 0 24) 285 20 1) 299 1 21) 285 20 2) 299 2 20) 285 20 3) L)) : am_mt (d + 10) 224 [.ref 285, .int (nI j), .int 1] (am_hh X S L) Q := by
  refine ax_in (ls := [some (.ref 285), some (.int (nI j)), some (.int 1)]) rfl ?_
  refine ax_s (pc' := 1) (st' := [.ref 285]) rfl rfl rfl rfl ?_
  refine ax_s (pc' := 2) (st' := [.int (nI j), .ref 285]) rfl rfl rfl rfl ?_
  refine ax_call (vs := [.ref 285, .int (nI j)]) (rr := []) rfl rfl rfl ?_
  refine mt_isParty  ?_
  show am_ex (d + 10) 224 5 [some (.ref 285), some (.int (nI j)), some (.int 1)] [.int (bI (decide (¬ (nI j) < 0 ∧ ¬ (S 285 7) - 1 < (nI j))))] (am_hh X S L) _
  refine ax_pF rfl (fun c1 => ?_) (fun c1 => ?_)
  · refine ax_s (pc' := 19) (st' := [.int (-1000001)]) rfl rfl rfl rfl ?_
    refine ax_r rfl rfl rfl ?_
    exact k1 c1
  · refine ax_s (pc' := 9) (st' := [.int 1]) rfl rfl rfl rfl ?_
    refine ax_s (pc' := 10) (st' := [.int 0, .int 1]) rfl rfl rfl rfl ?_
    refine ax_s (pc' := 11) (st' := [.int 1, .int 0, .int 1]) rfl rfl rfl rfl ?_
    refine ax_call (vs := [.int 1, .int 0, .int 1]) (rr := []) rfl rfl rfl ?_
    refine mt_in ?_
    show am_ex (d + 10) 224 14 [some (.ref 285), some (.int (nI j)), some (.int 1)] [.int 1] (am_hh X S L) _
    refine ax_if_ne rfl (fun c2 => ?_) (fun c2 => False.elim (by revert c2; decide))
    refine ax_s (pc' := 21) (st' := [.ref 285]) rfl rfl rfl rfl ?_
    refine ax_s (pc' := 22) (st' := [.int 0, .ref 285]) rfl rfl rfl rfl ?_
    refine ax_put rfl (hh_285 _ _ _) rfl rfl (show 20 + 1 ≤ _ from Nat.le_of_ble_eq_true rfl) rfl (am_hh_set _ _ _ 285 20 _ rfl) ?_
    refine ax_s (pc' := 26) (st' := [.ref 285]) rfl rfl rfl rfl ?_
    refine ax_get rfl (hh_285 _ _ _) rfl rfl rfl ?_
    show am_ex (d + 10) 224 29 [some (.ref 285), some (.int (nI j)), some (.int 1)] [.ref 290] (am_hh X (am_u S 285 20 0) L) _
    refine ax_s (pc' := 30) (st' := [.int (nI j), .ref 290]) rfl rfl rfl rfl ?_
    refine ax_ald (j := j) (v := 2) rfl (hh_290 _ _ _) rfl rfl (x1 c1) (by decide) hk ?_
    refine ax_s (pc' := 32) (st' := [.int 4, .int 2]) rfl rfl rfl rfl ?_
    refine ax_cmp_ge rfl (fun c3 => False.elim (by revert c3; decide)) (fun c3 => ?_)
    refine ax_s (pc' := 36) (st' := [.int 1]) rfl rfl rfl rfl ?_
    refine ax_if_ne rfl (fun c4 => ?_) (fun c4 => False.elim (by revert c4; decide))
    refine ax_s (pc' := 48) (st' := [.ref 285]) rfl rfl rfl rfl ?_
    refine ax_s (pc' := 49) (st' := [.int (nI j), .ref 285]) rfl rfl rfl rfl ?_
    refine ax_call (vs := [.ref 285, .int (nI j)]) (rr := []) rfl rfl rfl ?_
    refine ax_in (ls := [some (.ref 285), some (.int (nI j))]) rfl ?_
    refine ax_s (pc' := 1) (st' := [.ref 285]) rfl rfl rfl rfl ?_
    refine ax_get rfl (hh_285 _ _ _) rfl rfl rfl ?_
    show am_ex (d + 9) 228 4 [some (.ref 285), some (.int (nI j))] [.ref 290] (am_hh X (am_u S 285 20 0) L) _
    refine ax_s (pc' := 5) (st' := [.int (nI j), .ref 290]) rfl rfl rfl rfl ?_
    refine ax_ald (j := j) (v := 2) rfl (hh_290 _ _ _) rfl rfl (x1 c1) (by decide) hk ?_
    refine ax_s (pc' := 7) (st' := [.int 3, .int 2]) rfl rfl rfl rfl ?_
    refine ax_cmp_ne rfl (fun c5 => ?_) (fun c5 => False.elim (by revert c5; decide))
    refine ax_s (pc' := 27) (st' := [.ref 285]) rfl rfl rfl rfl ?_
    refine ax_get rfl (hh_285 _ _ _) rfl rfl rfl ?_
    show am_ex (d + 9) 228 30 [some (.ref 285), some (.int (nI j))] [.ref 290] (am_hh X (am_u S 285 20 0) L) _
    refine ax_s (pc' := 31) (st' := [.int (nI j), .ref 290]) rfl rfl rfl rfl ?_
    refine ax_ald (j := j) (v := 2) rfl (hh_290 _ _ _) rfl rfl (x1 c1) (by decide) hk ?_
    refine ax_s (pc' := 33) (st' := [.int 2, .int 2]) rfl rfl rfl rfl ?_
    refine ax_cmp_ne rfl (fun c6 => False.elim (by revert c6; decide)) (fun c6 => ?_)
    refine ax_s (pc' := 37) (st' := [.ref 285]) rfl rfl rfl rfl ?_
    refine ax_s (pc' := 39) (st' := [.int 24, .ref 285]) rfl rfl rfl rfl ?_
    refine ax_call (vs := [.ref 285, .int 24]) (rr := []) rfl rfl rfl ?_
    refine ax_in (ls := [some (.ref 285), some (.int 24)]) rfl ?_
    refine ax_s (pc' := 1) (st' := [.ref 285]) rfl rfl rfl rfl ?_
    refine ax_get rfl (hh_285 _ _ _) rfl rfl rfl ?_
    show am_ex (d + 8) 226 4 [some (.ref 285), some (.int 24)] [.int 0] (am_hh X (am_u S 285 20 0) L) _
    refine ax_s (pc' := 6) (st' := [.int 16, .int 0]) rfl rfl rfl rfl ?_
    refine ax_cmp_ge rfl (fun c7 => False.elim (by revert c7; decide)) (fun c7 => ?_)
    refine ax_s (pc' := 10) (st' := [.ref 285]) rfl rfl rfl rfl ?_
    refine ax_get rfl (hh_285 _ _ _) rfl rfl rfl ?_
    show am_ex (d + 8) 226 13 [some (.ref 285), some (.int 24)] [.ref 299] (am_hh X (am_u S 285 20 0) L) _
    refine ax_s (pc' := 14) (st' := [.ref 285, .ref 299]) rfl rfl rfl rfl ?_
    refine ax_get rfl (hh_285 _ _ _) rfl rfl rfl ?_
    show am_ex (d + 8) 226 17 [some (.ref 285), some (.int 24)] [.int 0, .ref 299] (am_hh X (am_u S 285 20 0) L) _
    refine ax_s (pc' := 18) (st' := [.int 24, .int 0, .ref 299]) rfl rfl rfl rfl ?_
    refine ax_ast (j := 0) rfl (hh_299 _ _ _) rfl rfl (by decide) (by decide) (am_hh_set _ _ _ 299 0 _ rfl) ?_
    refine ax_s (pc' := 20) (st' := [.ref 285]) rfl rfl rfl rfl ?_
    refine ax_s (pc' := 21) (st' := [.ref 285, .ref 285]) rfl rfl rfl rfl ?_
    refine ax_get rfl (hh_285 _ _ _) rfl rfl rfl ?_
    show am_ex (d + 8) 226 24 [some (.ref 285), some (.int 24)] [.int 0, .ref 285] (am_hh X (am_u (am_u S 285 20 0) 299 0 24) L) _
    refine ax_s (pc' := 25) (st' := [.int 1, .int 0, .ref 285]) rfl rfl rfl rfl ?_
    refine ax_s (pc' := 26) (st' := [.int 1, .ref 285]) rfl rfl rfl rfl ?_
    refine ax_put rfl (hh_285 _ _ _) rfl rfl (show 20 + 1 ≤ _ from Nat.le_of_ble_eq_true rfl) rfl (am_hh_set _ _ _ 285 20 _ rfl) ?_
    refine ax_r rfl rfl rfl ?_
    show am_ex (d + 9) 228 42 [some (.ref 285), some (.int (nI j))] [] (am_hh X (am_u (am_u (am_u S 285 20 0) 299 0 24) 285 20 1) L) _
    refine ax_s (pc' := 43) (st' := [.int 2]) rfl rfl rfl rfl ?_
    refine ax_s (pc' := 44) (st' := [.ref 285, .int 2]) rfl rfl rfl rfl ?_
    refine ax_s (pc' := 45) (st' := [.int (nI j), .ref 285, .int 2]) rfl rfl rfl rfl ?_
    refine ax_call (vs := [.ref 285, .int (nI j)]) (rr := [.int 2]) rfl rfl rfl ?_
    refine ax_in (ls := [some (.ref 285), some (.int (nI j))]) rfl ?_
    refine ax_s (pc' := 1) (st' := [.ref 285]) rfl rfl rfl rfl ?_
    refine ax_s (pc' := 3) (st' := [.int 21, .ref 285]) rfl rfl rfl rfl ?_
    refine ax_call (vs := [.ref 285, .int 21]) (rr := []) rfl rfl rfl ?_
    refine ax_in (ls := [some (.ref 285), some (.int 21)]) rfl ?_
    refine ax_s (pc' := 1) (st' := [.ref 285]) rfl rfl rfl rfl ?_
    refine ax_get rfl (hh_285 _ _ _) rfl rfl rfl ?_
    show am_ex (d + 7) 226 4 [some (.ref 285), some (.int 21)] [.int 1] (am_hh X (am_u (am_u (am_u S 285 20 0) 299 0 24) 285 20 1) L) _
    refine ax_s (pc' := 6) (st' := [.int 16, .int 1]) rfl rfl rfl rfl ?_
    refine ax_cmp_ge rfl (fun c8 => False.elim (by revert c8; decide)) (fun c8 => ?_)
    refine ax_s (pc' := 10) (st' := [.ref 285]) rfl rfl rfl rfl ?_
    refine ax_get rfl (hh_285 _ _ _) rfl rfl rfl ?_
    show am_ex (d + 7) 226 13 [some (.ref 285), some (.int 21)] [.ref 299] (am_hh X (am_u (am_u (am_u S 285 20 0) 299 0 24) 285 20 1) L) _
    refine ax_s (pc' := 14) (st' := [.ref 285, .ref 299]) rfl rfl rfl rfl ?_
    refine ax_get rfl (hh_285 _ _ _) rfl rfl rfl ?_
    show am_ex (d + 7) 226 17 [some (.ref 285), some (.int 21)] [.int 1, .ref 299] (am_hh X (am_u (am_u (am_u S 285 20 0) 299 0 24) 285 20 1) L) _
    refine ax_s (pc' := 18) (st' := [.int 21, .int 1, .ref 299]) rfl rfl rfl rfl ?_
    refine ax_ast (j := 1) rfl (hh_299 _ _ _) rfl rfl (by decide) (by decide) (am_hh_set _ _ _ 299 1 _ rfl) ?_
    refine ax_s (pc' := 20) (st' := [.ref 285]) rfl rfl rfl rfl ?_
    refine ax_s (pc' := 21) (st' := [.ref 285, .ref 285]) rfl rfl rfl rfl ?_
    refine ax_get rfl (hh_285 _ _ _) rfl rfl rfl ?_
    show am_ex (d + 7) 226 24 [some (.ref 285), some (.int 21)] [.int 1, .ref 285] (am_hh X (am_u (am_u (am_u (am_u S 285 20 0) 299 0 24) 285 20 1) 299 1 21) L) _
    refine ax_s (pc' := 25) (st' := [.int 1, .int 1, .ref 285]) rfl rfl rfl rfl ?_
    refine ax_s (pc' := 26) (st' := [.int 2, .ref 285]) rfl rfl rfl rfl ?_
    refine ax_put rfl (hh_285 _ _ _) rfl rfl (show 20 + 1 ≤ _ from Nat.le_of_ble_eq_true rfl) rfl (am_hh_set _ _ _ 285 20 _ rfl) ?_
    refine ax_r rfl rfl rfl ?_
    show am_ex (d + 8) 229 6 [some (.ref 285), some (.int (nI j))] [] (am_hh X (am_u (am_u (am_u (am_u (am_u S 285 20 0) 299 0 24) 285 20 1) 299 1 21) 285 20 2) L) _
    refine ax_s (pc' := 7) (st' := [.ref 285]) rfl rfl rfl rfl ?_
    refine ax_s (pc' := 8) (st' := [.int (nI j), .ref 285]) rfl rfl rfl rfl ?_
    refine ax_call (vs := [.ref 285, .int (nI j)]) (rr := []) rfl rfl rfl ?_
    refine ax_in (ls := [some (.ref 285), some (.int (nI j))]) rfl ?_
    refine ax_s (pc' := 1) (st' := [.ref 285]) rfl rfl rfl rfl ?_
    refine ax_s (pc' := 3) (st' := [.int 20, .ref 285]) rfl rfl rfl rfl ?_
    refine ax_call (vs := [.ref 285, .int 20]) (rr := []) rfl rfl rfl ?_
    refine ax_in (ls := [some (.ref 285), some (.int 20)]) rfl ?_
    refine ax_s (pc' := 1) (st' := [.ref 285]) rfl rfl rfl rfl ?_
    refine ax_get rfl (hh_285 _ _ _) rfl rfl rfl ?_
    show am_ex (d + 6) 226 4 [some (.ref 285), some (.int 20)] [.int 2] (am_hh X (am_u (am_u (am_u (am_u (am_u S 285 20 0) 299 0 24) 285 20 1) 299 1 21) 285 20 2) L) _
    refine ax_s (pc' := 6) (st' := [.int 16, .int 2]) rfl rfl rfl rfl ?_
    refine ax_cmp_ge rfl (fun c9 => False.elim (by revert c9; decide)) (fun c9 => ?_)
    refine ax_s (pc' := 10) (st' := [.ref 285]) rfl rfl rfl rfl ?_
    refine ax_get rfl (hh_285 _ _ _) rfl rfl rfl ?_
    show am_ex (d + 6) 226 13 [some (.ref 285), some (.int 20)] [.ref 299] (am_hh X (am_u (am_u (am_u (am_u (am_u S 285 20 0) 299 0 24) 285 20 1) 299 1 21) 285 20 2) L) _
    refine ax_s (pc' := 14) (st' := [.ref 285, .ref 299]) rfl rfl rfl rfl ?_
    refine ax_get rfl (hh_285 _ _ _) rfl rfl rfl ?_
    show am_ex (d + 6) 226 17 [some (.ref 285), some (.int 20)] [.int 2, .ref 299] (am_hh X (am_u (am_u (am_u (am_u (am_u S 285 20 0) 299 0 24) 285 20 1) 299 1 21) 285 20 2) L) _
    refine ax_s (pc' := 18) (st' := [.int 20, .int 2, .ref 299]) rfl rfl rfl rfl ?_
    refine ax_ast (j := 2) rfl (hh_299 _ _ _) rfl rfl (by decide) (by decide) (am_hh_set _ _ _ 299 2 _ rfl) ?_
    refine ax_s (pc' := 20) (st' := [.ref 285]) rfl rfl rfl rfl ?_
    refine ax_s (pc' := 21) (st' := [.ref 285, .ref 285]) rfl rfl rfl rfl ?_
    refine ax_get rfl (hh_285 _ _ _) rfl rfl rfl ?_
    show am_ex (d + 6) 226 24 [some (.ref 285), some (.int 20)] [.int 2, .ref 285] (am_hh X (am_u (am_u (am_u (am_u (am_u (am_u S 285 20 0) 299 0 24) 285 20 1) 299 1 21) 285 20 2) 299 2 20) L) _
    refine ax_s (pc' := 25) (st' := [.int 1, .int 2, .ref 285]) rfl rfl rfl rfl ?_
    refine ax_s (pc' := 26) (st' := [.int 3, .ref 285]) rfl rfl rfl rfl ?_
    refine ax_put rfl (hh_285 _ _ _) rfl rfl (show 20 + 1 ≤ _ from Nat.le_of_ble_eq_true rfl) rfl (am_hh_set _ _ _ 285 20 _ rfl) ?_
    refine ax_r rfl rfl rfl ?_
    show am_ex (d + 7) 230 6 [some (.ref 285), some (.int (nI j))] [] (am_hh X (am_u (am_u (am_u (am_u (am_u (am_u (am_u S 285 20 0) 299 0 24) 285 20 1) 299 1 21) 285 20 2) 299 2 20) 285 20 3) L) _
    refine ax_s (pc' := 7) (st' := [.int (nI j)]) rfl rfl rfl rfl ?_
    refine ax_r rfl rfl rfl ?_
    show am_ex (d + 8) 229 11 [some (.ref 285), some (.int (nI j))] [.int (nI j)] (am_hh X (am_u (am_u (am_u (am_u (am_u (am_u (am_u S 285 20 0) 299 0 24) 285 20 1) 299 1 21) 285 20 2) 299 2 20) 285 20 3) L) _
    refine ax_s (pc' := 12) (st' := [.ref 285, .int (nI j)]) rfl rfl rfl rfl ?_
    refine ax_get rfl (hh_285 _ _ _) rfl rfl rfl ?_
    show am_ex (d + 8) 229 15 [some (.ref 285), some (.int (nI j))] [.ref 293, .int (nI j)] (am_hh X (am_u (am_u (am_u (am_u (am_u (am_u (am_u S 285 20 0) 299 0 24) 285 20 1) 299 1 21) 285 20 2) 299 2 20) 285 20 3) L) _
    refine ax_s (pc' := 17) (st' := [.int 27, .ref 293, .int (nI j)]) rfl rfl rfl rfl ?_
    refine ax_s (pc' := 18) (st' := [.int (nI j), .int 27, .ref 293, .int (nI j)]) rfl rfl rfl rfl ?_
    refine ax_s (pc' := 19) (st' := [.int (27 + (nI j)), .ref 293, .int (nI j)]) rfl rfl rfl rfl ?_
    refine ax_ald (j := (27 + j)) (v := (S 293 (27 + j))) rfl (hh_293 _ _ _) rfl (am_na (x := 27) (y := j) rfl rfl) (x2 c1) (by decide) rfl ?_
    refine ax_s (pc' := 21) (st' := [.int ((nI j) + (S 293 (27 + j)))]) rfl rfl rfl rfl ?_
    refine ax_r rfl rfl rfl ?_
    show am_ex (d + 9) 228 48 [some (.ref 285), some (.int (nI j))] [.int ((nI j) + (S 293 (27 + j))), .int 2] (am_hh X (am_u (am_u (am_u (am_u (am_u (am_u (am_u S 285 20 0) 299 0 24) 285 20 1) 299 1 21) 285 20 2) 299 2 20) 285 20 3) L) _
    refine ax_s (pc' := 49) (st' := [.int (2 * ((nI j) + (S 293 (27 + j))))]) rfl rfl rfl rfl ?_
    refine ax_r rfl rfl rfl ?_
    show am_ex (d + 10) 224 52 [some (.ref 285), some (.int (nI j)), some (.int 1)] [.int (2 * ((nI j) + (S 293 (27 + j))))] (am_hh X (am_u (am_u (am_u (am_u (am_u (am_u (am_u S 285 20 0) 299 0 24) 285 20 1) 299 1 21) 285 20 2) 299 2 20) 285 20 3) L) _
    refine ax_r rfl rfl rfl ?_
    exact k2 c1
theorem wk_ask_3_0 {d : Nat} {X : Nat × (Nat → Int32)} {S : Nat → Nat → Int32} {L : Nat → Int64} {j : Nat} {Q : Option Value → am_H → Prop} (hk : S 22 j = 3) (hj : j < 6)  (x1 : ¬ (nI j) < 0 ∧ ¬ (S 20 4) ≤ (nI j) → j < 6) (k1 : ¬ (¬ (nI j) < 0 ∧ ¬ (S 20 4) ≤ (nI j)) → Q (some (.int (-1000001))) (am_hh X S L)) (k2 : ¬ (nI j) < 0 ∧ ¬ (S 20 4) ≤ (nI j) → Q (some (.int ((S 23 j) + (((nI j) + (S 27 j)) - 1000)))) (am_hh X (am_u (am_u (am_u (am_u (am_u (am_u (am_u (am_u (am_u (am_u (am_u S 283 2 0) 284 0 11) 283 2 1) 284 1 10) 283 2 2) 284 2 22) 283 2 3) 284 3 21) 283 2 4) 284 4 20) 283 2 5) L)) : am_mt (d + 30) 136 [.ref 5, .int (nI j), .int 0] (am_hh X S L) Q := by
  refine ax_in (ls := [some (.ref 5), some (.int (nI j)), some (.int 0)]) rfl ?_
  refine ax_s (pc' := 1) (st' := [.ref 5]) rfl rfl rfl rfl ?_
  refine ax_get rfl (hh_5 _ _ _) rfl rfl rfl ?_
  show am_ex (d + 30) 136 4 [some (.ref 5), some (.int (nI j)), some (.int 0)] [.ref 20] (am_hh X S L) _
  refine ax_s (pc' := 5) (st' := [.int (nI j), .ref 20]) rfl rfl rfl rfl ?_
  refine ax_call (vs := [.ref 20, .int (nI j)]) (rr := []) rfl rfl rfl ?_
  refine kw (am_hh_sub isW20 X S L) (am_hh_sub isW20 X S L).symm (fun _ => ct_hasParty (am_isW_k isW20 X S L)) ?_
  show am_ex (d + 30) 136 8 [some (.ref 5), some (.int (nI j)), some (.int 0)] [.int (bI (decide (¬ (nI j) < 0 ∧ ¬ (S 20 4) ≤ (nI j))))] (am_hh X S L) _
  refine ax_pF rfl (fun c1 => ?_) (fun c1 => ?_)
  · refine ax_s (pc' := 22) (st' := [.int (-1000001)]) rfl rfl rfl rfl ?_
    refine ax_r rfl rfl rfl ?_
    exact k1 c1
  · refine ax_s (pc' := 12) (st' := [.int 0]) rfl rfl rfl rfl ?_
    refine ax_s (pc' := 13) (st' := [.int 0, .int 0]) rfl rfl rfl rfl ?_
    refine ax_s (pc' := 14) (st' := [.int 1, .int 0, .int 0]) rfl rfl rfl rfl ?_
    refine ax_call (vs := [.int 0, .int 0, .int 1]) (rr := []) rfl rfl rfl ?_
    refine ct_isOutside ?_
    show am_ex (d + 30) 136 17 [some (.ref 5), some (.int (nI j)), some (.int 0)] [.int 0] (am_hh X S L) _
    refine ax_if_eq rfl (fun c2 => ?_) (fun c2 => False.elim (by revert c2; decide))
    refine ax_s (pc' := 24) (st' := [.ref 5]) rfl rfl rfl rfl ?_
    refine ax_get rfl (hh_5 _ _ _) rfl rfl rfl ?_
    show am_ex (d + 30) 136 27 [some (.ref 5), some (.int (nI j)), some (.int 0)] [.ref 283] (am_hh X S L) _
    refine ax_s (pc' := 28) (st' := [.int (nI j), .ref 283]) rfl rfl rfl rfl ?_
    refine ax_s (pc' := 29) (st' := [.int 0, .int (nI j), .ref 283]) rfl rfl rfl rfl ?_
    refine ax_call (vs := [.ref 283, .int (nI j), .int 0]) (rr := []) rfl rfl rfl ?_
    refine ax_in (ls := [some (.ref 283), some (.int (nI j)), some (.int 0)]) rfl ?_
    refine ax_s (pc' := 1) (st' := [.ref 283]) rfl rfl rfl rfl ?_
    refine ax_s (pc' := 2) (st' := [.int 0, .ref 283]) rfl rfl rfl rfl ?_
    refine ax_put rfl (hh_283 _ _ _) rfl rfl (show 2 + 1 ≤ _ from Nat.le_of_ble_eq_true rfl) rfl (am_hh_set _ _ _ 283 2 _ rfl) ?_
    refine ax_s (pc' := 6) (st' := [.ref 283]) rfl rfl rfl rfl ?_
    refine ax_s (pc' := 7) (st' := [.int (nI j), .ref 283]) rfl rfl rfl rfl ?_
    refine ax_s (pc' := 8) (st' := [.int 0, .int (nI j), .ref 283]) rfl rfl rfl rfl ?_
    refine ax_s (pc' := 9) (st' := [.int 0, .int 0, .int (nI j), .ref 283]) rfl rfl rfl rfl ?_
    refine ax_call (vs := [.ref 283, .int (nI j), .int 0, .int 0]) (rr := []) rfl rfl rfl ?_
    refine ax_in (ls := [some (.ref 283), some (.int (nI j)), some (.int 0), some (.int 0)]) rfl ?_
    refine ax_s (pc' := 1) (st' := [.ref 283]) rfl rfl rfl rfl ?_
    refine ax_s (pc' := 2) (st' := [.ref 283, .ref 283]) rfl rfl rfl rfl ?_
    refine ax_get rfl (hh_283 _ _ _) rfl rfl rfl ?_
    show am_ex (d + 28) 137 5 [some (.ref 283), some (.int (nI j)), some (.int 0), some (.int 0)] [.ref 20, .ref 283] (am_hh X (am_u S 283 2 0) L) _
    refine ax_get rfl (hh_20 _ _ _) rfl rfl rfl ?_
    show am_ex (d + 28) 137 8 [some (.ref 283), some (.int (nI j)), some (.int 0), some (.int 0)] [.ref 22, .ref 283] (am_hh X (am_u S 283 2 0) L) _
    refine ax_s (pc' := 9) (st' := [.int (nI j), .ref 22, .ref 283]) rfl rfl rfl rfl ?_
    refine ax_ald (j := j) (v := 3) rfl (hh_22 _ _ _) rfl rfl (x1 c1) (by decide) hk ?_
    refine ax_s (pc' := 11) (st' := [.int 0, .int 3, .ref 283]) rfl rfl rfl rfl ?_
    refine ax_if_ne rfl (fun c3 => False.elim (by revert c3; decide)) (fun c3 => ?_)
    refine ax_s (pc' := 17) (st' := [.ref 3, .int 3, .ref 283]) rfl rfl rfl rfl ?_
    refine ax_s (pc' := 23) (st' := [.ref 3, .int 3, .ref 283]) rfl rfl rfl rfl ?_
    refine ax_call (vs := [.int 3, .ref 3]) (rr := [.ref 283]) rfl rfl rfl ?_
    refine ax_in (ls := [some (.int 3), some (.ref 3), none, none]) rfl ?_
    refine ax_s (pc' := 1) (st' := [.int 3]) rfl rfl rfl rfl ?_
    refine ax_s (pc' := 2) (ls' := [some (.int 3), some (.ref 3), some (.int 3), none]) (st' := []) rfl rfl rfl rfl ?_
    refine ax_s (pc' := 3) (st' := [.int 0]) rfl rfl rfl rfl ?_
    refine ax_s (pc' := 4) (ls' := [some (.int 3), some (.ref 3), some (.int 3), some (.int 0)]) (st' := []) rfl rfl rfl rfl ?_
    refine ax_s (pc' := 5) (st' := [.int 0]) rfl rfl rfl rfl ?_
    refine ax_s (pc' := 6) (st' := [.int 5, .int 0]) rfl rfl rfl rfl ?_
    refine ax_cmp_gt rfl (fun c4 => False.elim (by revert c4; decide)) (fun c4 => ?_)
    refine ax_s (pc' := 10) (st' := [.int 3]) rfl rfl rfl rfl ?_
    refine ax_call (vs := [.int 3]) (rr := []) rfl rfl rfl ?_
    refine ax_in (ls := [some (.int 3)]) rfl ?_
    refine ax_s (pc' := 1) (st' := [.int 3]) rfl rfl rfl rfl ?_
    refine ax_if_lt rfl (fun c5 => False.elim (by revert c5; decide)) (fun c5 => ?_)
    refine ax_s (pc' := 5) (st' := [.int 3]) rfl rfl rfl rfl ?_
    refine ax_s (pc' := 6) (st' := [.int 5, .int 3]) rfl rfl rfl rfl ?_
    refine ax_cmp_gt rfl (fun c6 => False.elim (by revert c6; decide)) (fun c6 => ?_)
    refine ax_s (pc' := 10) (st' := [.int 1]) rfl rfl rfl rfl ?_
    refine ax_s (pc' := 14) (st' := [.int 1]) rfl rfl rfl rfl ?_
    refine ax_rb (b := true) rfl rfl ?_
    show am_ex (d + 27) 138 13 [some (.int 3), some (.ref 3), some (.int 3), some (.int 0)] [.int 1] (am_hh X (am_u S 283 2 0) L) _
    refine ax_if_eq rfl (fun c7 => False.elim (by revert c7; decide)) (fun c7 => ?_)
    refine ax_s (pc' := 17) (st' := [.ref 3]) rfl rfl rfl rfl ?_
    refine ax_s (pc' := 18) (st' := [.int 3, .ref 3]) rfl rfl rfl rfl ?_
    refine ax_ald (j := 3) (v := (-1000000)) rfl (hh_s3 _ _ _) rfl rfl (by decide) (by decide) rfl ?_
    refine ax_s (pc' := 21) (st' := [.int (-1000000), .int (-1000000)]) rfl rfl rfl rfl ?_
    refine ax_cmp_eq rfl (fun c8 => ?_) (fun c8 => False.elim (by revert c8; decide))
    refine ax_s (pc' := 31) (st' := [.ref 2]) rfl rfl rfl rfl ?_
    refine ax_s (pc' := 32) (st' := [.int 3, .ref 2]) rfl rfl rfl rfl ?_
    refine ax_ald (j := 3) (v := 1) rfl (hh_s2 _ _ _) rfl rfl (by decide) (by decide) rfl ?_
    refine ax_s (pc' := 34) (ls' := [some (.int 3), some (.ref 3), some (.int 1), some (.int 0)]) (st' := []) rfl rfl rfl rfl ?_
    refine ax_s (pc' := 37) (ls' := [some (.int 3), some (.ref 3), some (.int 1), some (.int 1)]) (st' := []) rfl rfl rfl rfl ?_
    refine ax_s (pc' := 4) (st' := []) rfl rfl rfl rfl ?_
    refine ax_s (pc' := 5) (st' := [.int 1]) rfl rfl rfl rfl ?_
    refine ax_s (pc' := 6) (st' := [.int 5, .int 1]) rfl rfl rfl rfl ?_
    refine ax_cmp_gt rfl (fun c9 => False.elim (by revert c9; decide)) (fun c9 => ?_)
    refine ax_s (pc' := 10) (st' := [.int 1]) rfl rfl rfl rfl ?_
    refine ax_call (vs := [.int 1]) (rr := []) rfl rfl rfl ?_
    refine ax_in (ls := [some (.int 1)]) rfl ?_
    refine ax_s (pc' := 1) (st' := [.int 1]) rfl rfl rfl rfl ?_
    refine ax_if_lt rfl (fun c10 => False.elim (by revert c10; decide)) (fun c10 => ?_)
    refine ax_s (pc' := 5) (st' := [.int 1]) rfl rfl rfl rfl ?_
    refine ax_s (pc' := 6) (st' := [.int 5, .int 1]) rfl rfl rfl rfl ?_
    refine ax_cmp_gt rfl (fun c11 => False.elim (by revert c11; decide)) (fun c11 => ?_)
    refine ax_s (pc' := 10) (st' := [.int 1]) rfl rfl rfl rfl ?_
    refine ax_s (pc' := 14) (st' := [.int 1]) rfl rfl rfl rfl ?_
    refine ax_rb (b := true) rfl rfl ?_
    show am_ex (d + 27) 138 13 [some (.int 3), some (.ref 3), some (.int 1), some (.int 1)] [.int 1] (am_hh X (am_u S 283 2 0) L) _
    refine ax_if_eq rfl (fun c12 => False.elim (by revert c12; decide)) (fun c12 => ?_)
    refine ax_s (pc' := 17) (st' := [.ref 3]) rfl rfl rfl rfl ?_
    refine ax_s (pc' := 18) (st' := [.int 1, .ref 3]) rfl rfl rfl rfl ?_
    refine ax_ald (j := 1) (v := 11) rfl (hh_s3 _ _ _) rfl rfl (by decide) (by decide) rfl ?_
    refine ax_s (pc' := 21) (st' := [.int (-1000000), .int 11]) rfl rfl rfl rfl ?_
    refine ax_cmp_eq rfl (fun c13 => False.elim (by revert c13; decide)) (fun c13 => ?_)
    refine ax_s (pc' := 25) (st' := [.ref 3]) rfl rfl rfl rfl ?_
    refine ax_s (pc' := 26) (st' := [.int 1, .ref 3]) rfl rfl rfl rfl ?_
    refine ax_ald (j := 1) (v := 11) rfl (hh_s3 _ _ _) rfl rfl (by decide) (by decide) rfl ?_
    refine ax_r rfl rfl rfl ?_
    show am_ex (d + 28) 137 26 [some (.ref 283), some (.int (nI j)), some (.int 0), some (.int 0)] [.int 11, .ref 283] (am_hh X (am_u S 283 2 0) L) _
    refine ax_s (pc' := 27) (st' := [.int (nI j), .int 11, .ref 283]) rfl rfl rfl rfl ?_
    refine ax_s (pc' := 28) (st' := [.int 0, .int (nI j), .int 11, .ref 283]) rfl rfl rfl rfl ?_
    refine ax_call (vs := [.ref 283, .int 11, .int (nI j), .int 0]) (rr := []) rfl rfl rfl ?_
    refine ax_in (ls := [some (.ref 283), some (.int 11), some (.int (nI j)), some (.int 0), none]) rfl ?_
    refine ax_s (pc' := 1) (st' := [.int 0]) rfl rfl rfl rfl ?_
    refine ax_s (pc' := 3) (st' := [.int 16, .int 0]) rfl rfl rfl rfl ?_
    refine ax_cmp_le rfl (fun c14 => ?_) (fun c14 => False.elim (by revert c14; decide))
    refine ax_s (pc' := 10) (st' := [.ref 283]) rfl rfl rfl rfl ?_
    refine ax_s (pc' := 11) (st' := [.int 11, .ref 283]) rfl rfl rfl rfl ?_
    refine ax_call (vs := [.ref 283, .int 11]) (rr := []) rfl rfl rfl ?_
    refine ax_in (ls := [some (.ref 283), some (.int 11)]) rfl ?_
    refine ax_s (pc' := 1) (st' := [.ref 283]) rfl rfl rfl rfl ?_
    refine ax_get rfl (hh_283 _ _ _) rfl rfl rfl ?_
    show am_ex (d + 26) 140 4 [some (.ref 283), some (.int 11)] [.int 0] (am_hh X (am_u S 283 2 0) L) _
    refine ax_if_lt rfl (fun c15 => False.elim (by revert c15; decide)) (fun c15 => ?_)
    refine ax_s (pc' := 8) (st' := [.ref 283]) rfl rfl rfl rfl ?_
    refine ax_get rfl (hh_283 _ _ _) rfl rfl rfl ?_
    show am_ex (d + 26) 140 11 [some (.ref 283), some (.int 11)] [.int 0] (am_hh X (am_u S 283 2 0) L) _
    refine ax_s (pc' := 13) (st' := [.int 16, .int 0]) rfl rfl rfl rfl ?_
    refine ax_cmp_ge rfl (fun c16 => False.elim (by revert c16; decide)) (fun c16 => ?_)
    refine ax_s (pc' := 17) (st' := [.ref 283]) rfl rfl rfl rfl ?_
    refine ax_get rfl (hh_283 _ _ _) rfl rfl rfl ?_
    show am_ex (d + 26) 140 20 [some (.ref 283), some (.int 11)] [.ref 284] (am_hh X (am_u S 283 2 0) L) _
    refine ax_s (pc' := 21) (st' := [.ref 283, .ref 284]) rfl rfl rfl rfl ?_
    refine ax_get rfl (hh_283 _ _ _) rfl rfl rfl ?_
    show am_ex (d + 26) 140 24 [some (.ref 283), some (.int 11)] [.int 0, .ref 284] (am_hh X (am_u S 283 2 0) L) _
    refine ax_s (pc' := 25) (st' := [.int 11, .int 0, .ref 284]) rfl rfl rfl rfl ?_
    refine ax_ast (j := 0) rfl (hh_284 _ _ _) rfl rfl (by decide) (by decide) (am_hh_set _ _ _ 284 0 _ rfl) ?_
    refine ax_s (pc' := 27) (st' := [.ref 283]) rfl rfl rfl rfl ?_
    refine ax_s (pc' := 28) (st' := [.ref 283, .ref 283]) rfl rfl rfl rfl ?_
    refine ax_get rfl (hh_283 _ _ _) rfl rfl rfl ?_
    show am_ex (d + 26) 140 31 [some (.ref 283), some (.int 11)] [.int 0, .ref 283] (am_hh X (am_u (am_u S 283 2 0) 284 0 11) L) _
    refine ax_s (pc' := 32) (st' := [.int 1, .int 0, .ref 283]) rfl rfl rfl rfl ?_
    refine ax_s (pc' := 33) (st' := [.int 1, .ref 283]) rfl rfl rfl rfl ?_
    refine ax_put rfl (hh_283 _ _ _) rfl rfl (show 2 + 1 ≤ _ from Nat.le_of_ble_eq_true rfl) rfl (am_hh_set _ _ _ 283 2 _ rfl) ?_
    refine ax_r rfl rfl rfl ?_
    show am_ex (d + 27) 139 14 [some (.ref 283), some (.int 11), some (.int (nI j)), some (.int 0), none] [] (am_hh X (am_u (am_u (am_u S 283 2 0) 284 0 11) 283 2 1) L) _
    refine ax_s (pc' := 15) (st' := [.int 0]) rfl rfl rfl rfl ?_
    refine ax_s (pc' := 16) (st' := [.int 1, .int 0]) rfl rfl rfl rfl ?_
    refine ax_s (pc' := 17) (st' := [.int 1]) rfl rfl rfl rfl ?_
    refine ax_s (pc' := 19) (ls' := [some (.ref 283), some (.int 11), some (.int (nI j)), some (.int 0), some (.int 1)]) (st' := []) rfl rfl rfl rfl ?_
    refine ax_s (pc' := 20) (st' := [.int 11]) rfl rfl rfl rfl ?_
    refine ax_s (pc' := 106) (ls' := [some (.ref 283), some (.int 11), some (.int (nI j)), some (.int 0), some (.int 1)]) (st' := []) (h1 := (am_hh X (am_u (am_u (am_u S 283 2 0) 284 0 11) 283 2 1) L)) rfl rfl rfl rfl ?_
    refine ax_s (pc' := 107) (st' := [.ref 283]) rfl rfl rfl rfl ?_
    refine ax_s (pc' := 109) (st' := [.int 10, .ref 283]) rfl rfl rfl rfl ?_
    refine ax_s (pc' := 110) (st' := [.int (nI j), .int 10, .ref 283]) rfl rfl rfl rfl ?_
    refine ax_s (pc' := 112) (st' := [.int 1, .int (nI j), .int 10, .ref 283]) rfl rfl rfl rfl ?_
    refine ax_call (vs := [.ref 283, .int 10, .int (nI j), .int 1]) (rr := []) rfl rfl rfl ?_
    refine ax_in (ls := [some (.ref 283), some (.int 10), some (.int (nI j)), some (.int 1), none]) rfl ?_
    refine ax_s (pc' := 1) (st' := [.int 1]) rfl rfl rfl rfl ?_
    refine ax_s (pc' := 3) (st' := [.int 16, .int 1]) rfl rfl rfl rfl ?_
    refine ax_cmp_le rfl (fun c17 => ?_) (fun c17 => False.elim (by revert c17; decide))
    refine ax_s (pc' := 10) (st' := [.ref 283]) rfl rfl rfl rfl ?_
    refine ax_s (pc' := 11) (st' := [.int 10, .ref 283]) rfl rfl rfl rfl ?_
    refine ax_call (vs := [.ref 283, .int 10]) (rr := []) rfl rfl rfl ?_
    refine ax_in (ls := [some (.ref 283), some (.int 10)]) rfl ?_
    refine ax_s (pc' := 1) (st' := [.ref 283]) rfl rfl rfl rfl ?_
    refine ax_get rfl (hh_283 _ _ _) rfl rfl rfl ?_
    show am_ex (d + 25) 140 4 [some (.ref 283), some (.int 10)] [.int 1] (am_hh X (am_u (am_u (am_u S 283 2 0) 284 0 11) 283 2 1) L) _
    refine ax_if_lt rfl (fun c18 => False.elim (by revert c18; decide)) (fun c18 => ?_)
    refine ax_s (pc' := 8) (st' := [.ref 283]) rfl rfl rfl rfl ?_
    refine ax_get rfl (hh_283 _ _ _) rfl rfl rfl ?_
    show am_ex (d + 25) 140 11 [some (.ref 283), some (.int 10)] [.int 1] (am_hh X (am_u (am_u (am_u S 283 2 0) 284 0 11) 283 2 1) L) _
    refine ax_s (pc' := 13) (st' := [.int 16, .int 1]) rfl rfl rfl rfl ?_
    refine ax_cmp_ge rfl (fun c19 => False.elim (by revert c19; decide)) (fun c19 => ?_)
    refine ax_s (pc' := 17) (st' := [.ref 283]) rfl rfl rfl rfl ?_
    refine ax_get rfl (hh_283 _ _ _) rfl rfl rfl ?_
    show am_ex (d + 25) 140 20 [some (.ref 283), some (.int 10)] [.ref 284] (am_hh X (am_u (am_u (am_u S 283 2 0) 284 0 11) 283 2 1) L) _
    refine ax_s (pc' := 21) (st' := [.ref 283, .ref 284]) rfl rfl rfl rfl ?_
    refine ax_get rfl (hh_283 _ _ _) rfl rfl rfl ?_
    show am_ex (d + 25) 140 24 [some (.ref 283), some (.int 10)] [.int 1, .ref 284] (am_hh X (am_u (am_u (am_u S 283 2 0) 284 0 11) 283 2 1) L) _
    refine ax_s (pc' := 25) (st' := [.int 10, .int 1, .ref 284]) rfl rfl rfl rfl ?_
    refine ax_ast (j := 1) rfl (hh_284 _ _ _) rfl rfl (by decide) (by decide) (am_hh_set _ _ _ 284 1 _ rfl) ?_
    refine ax_s (pc' := 27) (st' := [.ref 283]) rfl rfl rfl rfl ?_
    refine ax_s (pc' := 28) (st' := [.ref 283, .ref 283]) rfl rfl rfl rfl ?_
    refine ax_get rfl (hh_283 _ _ _) rfl rfl rfl ?_
    show am_ex (d + 25) 140 31 [some (.ref 283), some (.int 10)] [.int 1, .ref 283] (am_hh X (am_u (am_u (am_u (am_u S 283 2 0) 284 0 11) 283 2 1) 284 1 10) L) _
    refine ax_s (pc' := 32) (st' := [.int 1, .int 1, .ref 283]) rfl rfl rfl rfl ?_
    refine ax_s (pc' := 33) (st' := [.int 2, .ref 283]) rfl rfl rfl rfl ?_
    refine ax_put rfl (hh_283 _ _ _) rfl rfl (show 2 + 1 ≤ _ from Nat.le_of_ble_eq_true rfl) rfl (am_hh_set _ _ _ 283 2 _ rfl) ?_
    refine ax_r rfl rfl rfl ?_
    show am_ex (d + 26) 139 14 [some (.ref 283), some (.int 10), some (.int (nI j)), some (.int 1), none] [] (am_hh X (am_u (am_u (am_u (am_u (am_u S 283 2 0) 284 0 11) 283 2 1) 284 1 10) 283 2 2) L) _
    refine ax_s (pc' := 15) (st' := [.int 1]) rfl rfl rfl rfl ?_
    refine ax_s (pc' := 16) (st' := [.int 1, .int 1]) rfl rfl rfl rfl ?_
    refine ax_s (pc' := 17) (st' := [.int 2]) rfl rfl rfl rfl ?_
    refine ax_s (pc' := 19) (ls' := [some (.ref 283), some (.int 10), some (.int (nI j)), some (.int 1), some (.int 2)]) (st' := []) rfl rfl rfl rfl ?_
    refine ax_s (pc' := 20) (st' := [.int 10]) rfl rfl rfl rfl ?_
    refine ax_s (pc' := 96) (ls' := [some (.ref 283), some (.int 10), some (.int (nI j)), some (.int 1), some (.int 2)]) (st' := []) (h1 := (am_hh X (am_u (am_u (am_u (am_u (am_u S 283 2 0) 284 0 11) 283 2 1) 284 1 10) 283 2 2) L)) rfl rfl rfl rfl ?_
    refine ax_s (pc' := 97) (st' := [.ref 283]) rfl rfl rfl rfl ?_
    refine ax_get rfl (hh_283 _ _ _) rfl rfl rfl ?_
    show am_ex (d + 26) 139 100 [some (.ref 283), some (.int 10), some (.int (nI j)), some (.int 1), some (.int 2)] [.ref 20] (am_hh X (am_u (am_u (am_u (am_u (am_u S 283 2 0) 284 0 11) 283 2 1) 284 1 10) 283 2 2) L) _
    refine ax_get rfl (hh_20 _ _ _) rfl rfl rfl ?_
    show am_ex (d + 26) 139 103 [some (.ref 283), some (.int 10), some (.int (nI j)), some (.int 1), some (.int 2)] [.ref 23] (am_hh X (am_u (am_u (am_u (am_u (am_u S 283 2 0) 284 0 11) 283 2 1) 284 1 10) 283 2 2) L) _
    refine ax_s (pc' := 104) (st' := [.int (nI j), .ref 23]) rfl rfl rfl rfl ?_
    refine ax_ald (j := j) (v := (S 23 j)) rfl (hh_23 _ _ _) rfl rfl (x1 c1) (by decide) rfl ?_
    refine ax_r rfl rfl rfl ?_
    show am_ex (d + 27) 139 115 [some (.ref 283), some (.int 11), some (.int (nI j)), some (.int 0), some (.int 1)] [.int (S 23 j)] (am_hh X (am_u (am_u (am_u (am_u (am_u S 283 2 0) 284 0 11) 283 2 1) 284 1 10) 283 2 2) L) _
    refine ax_s (pc' := 116) (st' := [.ref 283, .int (S 23 j)]) rfl rfl rfl rfl ?_
    refine ax_s (pc' := 117) (st' := [.int (nI j), .ref 283, .int (S 23 j)]) rfl rfl rfl rfl ?_
    refine ax_s (pc' := 118) (st' := [.int 1, .int (nI j), .ref 283, .int (S 23 j)]) rfl rfl rfl rfl ?_
    refine ax_s (pc' := 120) (st' := [.int 1, .int 1, .int (nI j), .ref 283, .int (S 23 j)]) rfl rfl rfl rfl ?_
    refine ax_call (vs := [.ref 283, .int (nI j), .int 1, .int 1]) (rr := [.int (S 23 j)]) rfl rfl rfl ?_
    refine ax_in (ls := [some (.ref 283), some (.int (nI j)), some (.int 1), some (.int 1)]) rfl ?_
    refine ax_s (pc' := 1) (st' := [.ref 283]) rfl rfl rfl rfl ?_
    refine ax_s (pc' := 2) (st' := [.ref 283, .ref 283]) rfl rfl rfl rfl ?_
    refine ax_get rfl (hh_283 _ _ _) rfl rfl rfl ?_
    show am_ex (d + 26) 137 5 [some (.ref 283), some (.int (nI j)), some (.int 1), some (.int 1)] [.ref 20, .ref 283] (am_hh X (am_u (am_u (am_u (am_u (am_u S 283 2 0) 284 0 11) 283 2 1) 284 1 10) 283 2 2) L) _
    refine ax_get rfl (hh_20 _ _ _) rfl rfl rfl ?_
    show am_ex (d + 26) 137 8 [some (.ref 283), some (.int (nI j)), some (.int 1), some (.int 1)] [.ref 22, .ref 283] (am_hh X (am_u (am_u (am_u (am_u (am_u S 283 2 0) 284 0 11) 283 2 1) 284 1 10) 283 2 2) L) _
    refine ax_s (pc' := 9) (st' := [.int (nI j), .ref 22, .ref 283]) rfl rfl rfl rfl ?_
    refine ax_ald (j := j) (v := 3) rfl (hh_22 _ _ _) rfl rfl (x1 c1) (by decide) hk ?_
    refine ax_s (pc' := 11) (st' := [.int 1, .int 3, .ref 283]) rfl rfl rfl rfl ?_
    refine ax_if_ne rfl (fun c20 => ?_) (fun c20 => False.elim (by revert c20; decide))
    refine ax_s (pc' := 23) (st' := [.ref 4, .int 3, .ref 283]) rfl rfl rfl rfl ?_
    refine ax_call (vs := [.int 3, .ref 4]) (rr := [.ref 283]) rfl rfl rfl ?_
    refine ax_in (ls := [some (.int 3), some (.ref 4), none, none]) rfl ?_
    refine ax_s (pc' := 1) (st' := [.int 3]) rfl rfl rfl rfl ?_
    refine ax_s (pc' := 2) (ls' := [some (.int 3), some (.ref 4), some (.int 3), none]) (st' := []) rfl rfl rfl rfl ?_
    refine ax_s (pc' := 3) (st' := [.int 0]) rfl rfl rfl rfl ?_
    refine ax_s (pc' := 4) (ls' := [some (.int 3), some (.ref 4), some (.int 3), some (.int 0)]) (st' := []) rfl rfl rfl rfl ?_
    refine ax_s (pc' := 5) (st' := [.int 0]) rfl rfl rfl rfl ?_
    refine ax_s (pc' := 6) (st' := [.int 5, .int 0]) rfl rfl rfl rfl ?_
    refine ax_cmp_gt rfl (fun c21 => False.elim (by revert c21; decide)) (fun c21 => ?_)
    refine ax_s (pc' := 10) (st' := [.int 3]) rfl rfl rfl rfl ?_
    refine ax_call (vs := [.int 3]) (rr := []) rfl rfl rfl ?_
    refine ax_in (ls := [some (.int 3)]) rfl ?_
    refine ax_s (pc' := 1) (st' := [.int 3]) rfl rfl rfl rfl ?_
    refine ax_if_lt rfl (fun c22 => False.elim (by revert c22; decide)) (fun c22 => ?_)
    refine ax_s (pc' := 5) (st' := [.int 3]) rfl rfl rfl rfl ?_
    refine ax_s (pc' := 6) (st' := [.int 5, .int 3]) rfl rfl rfl rfl ?_
    refine ax_cmp_gt rfl (fun c23 => False.elim (by revert c23; decide)) (fun c23 => ?_)
    refine ax_s (pc' := 10) (st' := [.int 1]) rfl rfl rfl rfl ?_
    refine ax_s (pc' := 14) (st' := [.int 1]) rfl rfl rfl rfl ?_
    refine ax_rb (b := true) rfl rfl ?_
    show am_ex (d + 25) 138 13 [some (.int 3), some (.ref 4), some (.int 3), some (.int 0)] [.int 1] (am_hh X (am_u (am_u (am_u (am_u (am_u S 283 2 0) 284 0 11) 283 2 1) 284 1 10) 283 2 2) L) _
    refine ax_if_eq rfl (fun c24 => False.elim (by revert c24; decide)) (fun c24 => ?_)
    refine ax_s (pc' := 17) (st' := [.ref 4]) rfl rfl rfl rfl ?_
    refine ax_s (pc' := 18) (st' := [.int 3, .ref 4]) rfl rfl rfl rfl ?_
    refine ax_ald (j := 3) (v := 22) rfl (hh_s4 _ _ _) rfl rfl (by decide) (by decide) rfl ?_
    refine ax_s (pc' := 21) (st' := [.int (-1000000), .int 22]) rfl rfl rfl rfl ?_
    refine ax_cmp_eq rfl (fun c25 => False.elim (by revert c25; decide)) (fun c25 => ?_)
    refine ax_s (pc' := 25) (st' := [.ref 4]) rfl rfl rfl rfl ?_
    refine ax_s (pc' := 26) (st' := [.int 3, .ref 4]) rfl rfl rfl rfl ?_
    refine ax_ald (j := 3) (v := 22) rfl (hh_s4 _ _ _) rfl rfl (by decide) (by decide) rfl ?_
    refine ax_r rfl rfl rfl ?_
    show am_ex (d + 26) 137 26 [some (.ref 283), some (.int (nI j)), some (.int 1), some (.int 1)] [.int 22, .ref 283] (am_hh X (am_u (am_u (am_u (am_u (am_u S 283 2 0) 284 0 11) 283 2 1) 284 1 10) 283 2 2) L) _
    refine ax_s (pc' := 27) (st' := [.int (nI j), .int 22, .ref 283]) rfl rfl rfl rfl ?_
    refine ax_s (pc' := 28) (st' := [.int 1, .int (nI j), .int 22, .ref 283]) rfl rfl rfl rfl ?_
    refine ax_call (vs := [.ref 283, .int 22, .int (nI j), .int 1]) (rr := []) rfl rfl rfl ?_
    refine ax_in (ls := [some (.ref 283), some (.int 22), some (.int (nI j)), some (.int 1), none]) rfl ?_
    refine ax_s (pc' := 1) (st' := [.int 1]) rfl rfl rfl rfl ?_
    refine ax_s (pc' := 3) (st' := [.int 16, .int 1]) rfl rfl rfl rfl ?_
    refine ax_cmp_le rfl (fun c26 => ?_) (fun c26 => False.elim (by revert c26; decide))
    refine ax_s (pc' := 10) (st' := [.ref 283]) rfl rfl rfl rfl ?_
    refine ax_s (pc' := 11) (st' := [.int 22, .ref 283]) rfl rfl rfl rfl ?_
    refine ax_call (vs := [.ref 283, .int 22]) (rr := []) rfl rfl rfl ?_
    refine ax_in (ls := [some (.ref 283), some (.int 22)]) rfl ?_
    refine ax_s (pc' := 1) (st' := [.ref 283]) rfl rfl rfl rfl ?_
    refine ax_get rfl (hh_283 _ _ _) rfl rfl rfl ?_
    show am_ex (d + 24) 140 4 [some (.ref 283), some (.int 22)] [.int 2] (am_hh X (am_u (am_u (am_u (am_u (am_u S 283 2 0) 284 0 11) 283 2 1) 284 1 10) 283 2 2) L) _
    refine ax_if_lt rfl (fun c27 => False.elim (by revert c27; decide)) (fun c27 => ?_)
    refine ax_s (pc' := 8) (st' := [.ref 283]) rfl rfl rfl rfl ?_
    refine ax_get rfl (hh_283 _ _ _) rfl rfl rfl ?_
    show am_ex (d + 24) 140 11 [some (.ref 283), some (.int 22)] [.int 2] (am_hh X (am_u (am_u (am_u (am_u (am_u S 283 2 0) 284 0 11) 283 2 1) 284 1 10) 283 2 2) L) _
    refine ax_s (pc' := 13) (st' := [.int 16, .int 2]) rfl rfl rfl rfl ?_
    refine ax_cmp_ge rfl (fun c28 => False.elim (by revert c28; decide)) (fun c28 => ?_)
    refine ax_s (pc' := 17) (st' := [.ref 283]) rfl rfl rfl rfl ?_
    refine ax_get rfl (hh_283 _ _ _) rfl rfl rfl ?_
    show am_ex (d + 24) 140 20 [some (.ref 283), some (.int 22)] [.ref 284] (am_hh X (am_u (am_u (am_u (am_u (am_u S 283 2 0) 284 0 11) 283 2 1) 284 1 10) 283 2 2) L) _
    refine ax_s (pc' := 21) (st' := [.ref 283, .ref 284]) rfl rfl rfl rfl ?_
    refine ax_get rfl (hh_283 _ _ _) rfl rfl rfl ?_
    show am_ex (d + 24) 140 24 [some (.ref 283), some (.int 22)] [.int 2, .ref 284] (am_hh X (am_u (am_u (am_u (am_u (am_u S 283 2 0) 284 0 11) 283 2 1) 284 1 10) 283 2 2) L) _
    refine ax_s (pc' := 25) (st' := [.int 22, .int 2, .ref 284]) rfl rfl rfl rfl ?_
    refine ax_ast (j := 2) rfl (hh_284 _ _ _) rfl rfl (by decide) (by decide) (am_hh_set _ _ _ 284 2 _ rfl) ?_
    refine ax_s (pc' := 27) (st' := [.ref 283]) rfl rfl rfl rfl ?_
    refine ax_s (pc' := 28) (st' := [.ref 283, .ref 283]) rfl rfl rfl rfl ?_
    refine ax_get rfl (hh_283 _ _ _) rfl rfl rfl ?_
    show am_ex (d + 24) 140 31 [some (.ref 283), some (.int 22)] [.int 2, .ref 283] (am_hh X (am_u (am_u (am_u (am_u (am_u (am_u S 283 2 0) 284 0 11) 283 2 1) 284 1 10) 283 2 2) 284 2 22) L) _
    refine ax_s (pc' := 32) (st' := [.int 1, .int 2, .ref 283]) rfl rfl rfl rfl ?_
    refine ax_s (pc' := 33) (st' := [.int 3, .ref 283]) rfl rfl rfl rfl ?_
    refine ax_put rfl (hh_283 _ _ _) rfl rfl (show 2 + 1 ≤ _ from Nat.le_of_ble_eq_true rfl) rfl (am_hh_set _ _ _ 283 2 _ rfl) ?_
    refine ax_r rfl rfl rfl ?_
    show am_ex (d + 25) 139 14 [some (.ref 283), some (.int 22), some (.int (nI j)), some (.int 1), none] [] (am_hh X (am_u (am_u (am_u (am_u (am_u (am_u (am_u S 283 2 0) 284 0 11) 283 2 1) 284 1 10) 283 2 2) 284 2 22) 283 2 3) L) _
    refine ax_s (pc' := 15) (st' := [.int 1]) rfl rfl rfl rfl ?_
    refine ax_s (pc' := 16) (st' := [.int 1, .int 1]) rfl rfl rfl rfl ?_
    refine ax_s (pc' := 17) (st' := [.int 2]) rfl rfl rfl rfl ?_
    refine ax_s (pc' := 19) (ls' := [some (.ref 283), some (.int 22), some (.int (nI j)), some (.int 1), some (.int 2)]) (st' := []) rfl rfl rfl rfl ?_
    refine ax_s (pc' := 20) (st' := [.int 22]) rfl rfl rfl rfl ?_
    refine ax_s (pc' := 184) (ls' := [some (.ref 283), some (.int 22), some (.int (nI j)), some (.int 1), some (.int 2)]) (st' := []) (h1 := (am_hh X (am_u (am_u (am_u (am_u (am_u (am_u (am_u S 283 2 0) 284 0 11) 283 2 1) 284 1 10) 283 2 2) 284 2 22) 283 2 3) L)) rfl rfl rfl rfl ?_
    refine ax_s (pc' := 185) (st' := [.ref 283]) rfl rfl rfl rfl ?_
    refine ax_s (pc' := 187) (st' := [.int 21, .ref 283]) rfl rfl rfl rfl ?_
    refine ax_s (pc' := 188) (st' := [.int (nI j), .int 21, .ref 283]) rfl rfl rfl rfl ?_
    refine ax_s (pc' := 190) (st' := [.int 2, .int (nI j), .int 21, .ref 283]) rfl rfl rfl rfl ?_
    refine ax_call (vs := [.ref 283, .int 21, .int (nI j), .int 2]) (rr := []) rfl rfl rfl ?_
    refine ax_in (ls := [some (.ref 283), some (.int 21), some (.int (nI j)), some (.int 2), none]) rfl ?_
    refine ax_s (pc' := 1) (st' := [.int 2]) rfl rfl rfl rfl ?_
    refine ax_s (pc' := 3) (st' := [.int 16, .int 2]) rfl rfl rfl rfl ?_
    refine ax_cmp_le rfl (fun c29 => ?_) (fun c29 => False.elim (by revert c29; decide))
    refine ax_s (pc' := 10) (st' := [.ref 283]) rfl rfl rfl rfl ?_
    refine ax_s (pc' := 11) (st' := [.int 21, .ref 283]) rfl rfl rfl rfl ?_
    refine ax_call (vs := [.ref 283, .int 21]) (rr := []) rfl rfl rfl ?_
    refine ax_in (ls := [some (.ref 283), some (.int 21)]) rfl ?_
    refine ax_s (pc' := 1) (st' := [.ref 283]) rfl rfl rfl rfl ?_
    refine ax_get rfl (hh_283 _ _ _) rfl rfl rfl ?_
    show am_ex (d + 23) 140 4 [some (.ref 283), some (.int 21)] [.int 3] (am_hh X (am_u (am_u (am_u (am_u (am_u (am_u (am_u S 283 2 0) 284 0 11) 283 2 1) 284 1 10) 283 2 2) 284 2 22) 283 2 3) L) _
    refine ax_if_lt rfl (fun c30 => False.elim (by revert c30; decide)) (fun c30 => ?_)
    refine ax_s (pc' := 8) (st' := [.ref 283]) rfl rfl rfl rfl ?_
    refine ax_get rfl (hh_283 _ _ _) rfl rfl rfl ?_
    show am_ex (d + 23) 140 11 [some (.ref 283), some (.int 21)] [.int 3] (am_hh X (am_u (am_u (am_u (am_u (am_u (am_u (am_u S 283 2 0) 284 0 11) 283 2 1) 284 1 10) 283 2 2) 284 2 22) 283 2 3) L) _
    refine ax_s (pc' := 13) (st' := [.int 16, .int 3]) rfl rfl rfl rfl ?_
    refine ax_cmp_ge rfl (fun c31 => False.elim (by revert c31; decide)) (fun c31 => ?_)
    refine ax_s (pc' := 17) (st' := [.ref 283]) rfl rfl rfl rfl ?_
    refine ax_get rfl (hh_283 _ _ _) rfl rfl rfl ?_
    show am_ex (d + 23) 140 20 [some (.ref 283), some (.int 21)] [.ref 284] (am_hh X (am_u (am_u (am_u (am_u (am_u (am_u (am_u S 283 2 0) 284 0 11) 283 2 1) 284 1 10) 283 2 2) 284 2 22) 283 2 3) L) _
    refine ax_s (pc' := 21) (st' := [.ref 283, .ref 284]) rfl rfl rfl rfl ?_
    refine ax_get rfl (hh_283 _ _ _) rfl rfl rfl ?_
    show am_ex (d + 23) 140 24 [some (.ref 283), some (.int 21)] [.int 3, .ref 284] (am_hh X (am_u (am_u (am_u (am_u (am_u (am_u (am_u S 283 2 0) 284 0 11) 283 2 1) 284 1 10) 283 2 2) 284 2 22) 283 2 3) L) _
    refine ax_s (pc' := 25) (st' := [.int 21, .int 3, .ref 284]) rfl rfl rfl rfl ?_
    refine ax_ast (j := 3) rfl (hh_284 _ _ _) rfl rfl (by decide) (by decide) (am_hh_set _ _ _ 284 3 _ rfl) ?_
    refine ax_s (pc' := 27) (st' := [.ref 283]) rfl rfl rfl rfl ?_
    refine ax_s (pc' := 28) (st' := [.ref 283, .ref 283]) rfl rfl rfl rfl ?_
    refine ax_get rfl (hh_283 _ _ _) rfl rfl rfl ?_
    show am_ex (d + 23) 140 31 [some (.ref 283), some (.int 21)] [.int 3, .ref 283] (am_hh X (am_u (am_u (am_u (am_u (am_u (am_u (am_u (am_u S 283 2 0) 284 0 11) 283 2 1) 284 1 10) 283 2 2) 284 2 22) 283 2 3) 284 3 21) L) _
    refine ax_s (pc' := 32) (st' := [.int 1, .int 3, .ref 283]) rfl rfl rfl rfl ?_
    refine ax_s (pc' := 33) (st' := [.int 4, .ref 283]) rfl rfl rfl rfl ?_
    refine ax_put rfl (hh_283 _ _ _) rfl rfl (show 2 + 1 ≤ _ from Nat.le_of_ble_eq_true rfl) rfl (am_hh_set _ _ _ 283 2 _ rfl) ?_
    refine ax_r rfl rfl rfl ?_
    show am_ex (d + 24) 139 14 [some (.ref 283), some (.int 21), some (.int (nI j)), some (.int 2), none] [] (am_hh X (am_u (am_u (am_u (am_u (am_u (am_u (am_u (am_u (am_u S 283 2 0) 284 0 11) 283 2 1) 284 1 10) 283 2 2) 284 2 22) 283 2 3) 284 3 21) 283 2 4) L) _
    refine ax_s (pc' := 15) (st' := [.int 2]) rfl rfl rfl rfl ?_
    refine ax_s (pc' := 16) (st' := [.int 1, .int 2]) rfl rfl rfl rfl ?_
    refine ax_s (pc' := 17) (st' := [.int 3]) rfl rfl rfl rfl ?_
    refine ax_s (pc' := 19) (ls' := [some (.ref 283), some (.int 21), some (.int (nI j)), some (.int 2), some (.int 3)]) (st' := []) rfl rfl rfl rfl ?_
    refine ax_s (pc' := 20) (st' := [.int 21]) rfl rfl rfl rfl ?_
    refine ax_s (pc' := 164) (ls' := [some (.ref 283), some (.int 21), some (.int (nI j)), some (.int 2), some (.int 3)]) (st' := []) (h1 := (am_hh X (am_u (am_u (am_u (am_u (am_u (am_u (am_u (am_u (am_u S 283 2 0) 284 0 11) 283 2 1) 284 1 10) 283 2 2) 284 2 22) 283 2 3) 284 3 21) 283 2 4) L)) rfl rfl rfl rfl ?_
    refine ax_s (pc' := 165) (st' := [.ref 283]) rfl rfl rfl rfl ?_
    refine ax_s (pc' := 167) (st' := [.int 20, .ref 283]) rfl rfl rfl rfl ?_
    refine ax_s (pc' := 168) (st' := [.int (nI j), .int 20, .ref 283]) rfl rfl rfl rfl ?_
    refine ax_s (pc' := 170) (st' := [.int 3, .int (nI j), .int 20, .ref 283]) rfl rfl rfl rfl ?_
    refine ax_call (vs := [.ref 283, .int 20, .int (nI j), .int 3]) (rr := []) rfl rfl rfl ?_
    refine ax_in (ls := [some (.ref 283), some (.int 20), some (.int (nI j)), some (.int 3), none]) rfl ?_
    refine ax_s (pc' := 1) (st' := [.int 3]) rfl rfl rfl rfl ?_
    refine ax_s (pc' := 3) (st' := [.int 16, .int 3]) rfl rfl rfl rfl ?_
    refine ax_cmp_le rfl (fun c32 => ?_) (fun c32 => False.elim (by revert c32; decide))
    refine ax_s (pc' := 10) (st' := [.ref 283]) rfl rfl rfl rfl ?_
    refine ax_s (pc' := 11) (st' := [.int 20, .ref 283]) rfl rfl rfl rfl ?_
    refine ax_call (vs := [.ref 283, .int 20]) (rr := []) rfl rfl rfl ?_
    refine ax_in (ls := [some (.ref 283), some (.int 20)]) rfl ?_
    refine ax_s (pc' := 1) (st' := [.ref 283]) rfl rfl rfl rfl ?_
    refine ax_get rfl (hh_283 _ _ _) rfl rfl rfl ?_
    show am_ex (d + 22) 140 4 [some (.ref 283), some (.int 20)] [.int 4] (am_hh X (am_u (am_u (am_u (am_u (am_u (am_u (am_u (am_u (am_u S 283 2 0) 284 0 11) 283 2 1) 284 1 10) 283 2 2) 284 2 22) 283 2 3) 284 3 21) 283 2 4) L) _
    refine ax_if_lt rfl (fun c33 => False.elim (by revert c33; decide)) (fun c33 => ?_)
    refine ax_s (pc' := 8) (st' := [.ref 283]) rfl rfl rfl rfl ?_
    refine ax_get rfl (hh_283 _ _ _) rfl rfl rfl ?_
    show am_ex (d + 22) 140 11 [some (.ref 283), some (.int 20)] [.int 4] (am_hh X (am_u (am_u (am_u (am_u (am_u (am_u (am_u (am_u (am_u S 283 2 0) 284 0 11) 283 2 1) 284 1 10) 283 2 2) 284 2 22) 283 2 3) 284 3 21) 283 2 4) L) _
    refine ax_s (pc' := 13) (st' := [.int 16, .int 4]) rfl rfl rfl rfl ?_
    refine ax_cmp_ge rfl (fun c34 => False.elim (by revert c34; decide)) (fun c34 => ?_)
    refine ax_s (pc' := 17) (st' := [.ref 283]) rfl rfl rfl rfl ?_
    refine ax_get rfl (hh_283 _ _ _) rfl rfl rfl ?_
    show am_ex (d + 22) 140 20 [some (.ref 283), some (.int 20)] [.ref 284] (am_hh X (am_u (am_u (am_u (am_u (am_u (am_u (am_u (am_u (am_u S 283 2 0) 284 0 11) 283 2 1) 284 1 10) 283 2 2) 284 2 22) 283 2 3) 284 3 21) 283 2 4) L) _
    refine ax_s (pc' := 21) (st' := [.ref 283, .ref 284]) rfl rfl rfl rfl ?_
    refine ax_get rfl (hh_283 _ _ _) rfl rfl rfl ?_
    show am_ex (d + 22) 140 24 [some (.ref 283), some (.int 20)] [.int 4, .ref 284] (am_hh X (am_u (am_u (am_u (am_u (am_u (am_u (am_u (am_u (am_u S 283 2 0) 284 0 11) 283 2 1) 284 1 10) 283 2 2) 284 2 22) 283 2 3) 284 3 21) 283 2 4) L) _
    refine ax_s (pc' := 25) (st' := [.int 20, .int 4, .ref 284]) rfl rfl rfl rfl ?_
    refine ax_ast (j := 4) rfl (hh_284 _ _ _) rfl rfl (by decide) (by decide) (am_hh_set _ _ _ 284 4 _ rfl) ?_
    refine ax_s (pc' := 27) (st' := [.ref 283]) rfl rfl rfl rfl ?_
    refine ax_s (pc' := 28) (st' := [.ref 283, .ref 283]) rfl rfl rfl rfl ?_
    refine ax_get rfl (hh_283 _ _ _) rfl rfl rfl ?_
    show am_ex (d + 22) 140 31 [some (.ref 283), some (.int 20)] [.int 4, .ref 283] (am_hh X (am_u (am_u (am_u (am_u (am_u (am_u (am_u (am_u (am_u (am_u S 283 2 0) 284 0 11) 283 2 1) 284 1 10) 283 2 2) 284 2 22) 283 2 3) 284 3 21) 283 2 4) 284 4 20) L) _
    refine ax_s (pc' := 32) (st' := [.int 1, .int 4, .ref 283]) rfl rfl rfl rfl ?_
    refine ax_s (pc' := 33) (st' := [.int 5, .ref 283]) rfl rfl rfl rfl ?_
    refine ax_put rfl (hh_283 _ _ _) rfl rfl (show 2 + 1 ≤ _ from Nat.le_of_ble_eq_true rfl) rfl (am_hh_set _ _ _ 283 2 _ rfl) ?_
    refine ax_r rfl rfl rfl ?_
    show am_ex (d + 23) 139 14 [some (.ref 283), some (.int 20), some (.int (nI j)), some (.int 3), none] [] (am_hh X (am_u (am_u (am_u (am_u (am_u (am_u (am_u (am_u (am_u (am_u (am_u S 283 2 0) 284 0 11) 283 2 1) 284 1 10) 283 2 2) 284 2 22) 283 2 3) 284 3 21) 283 2 4) 284 4 20) 283 2 5) L) _
    refine ax_s (pc' := 15) (st' := [.int 3]) rfl rfl rfl rfl ?_
    refine ax_s (pc' := 16) (st' := [.int 1, .int 3]) rfl rfl rfl rfl ?_
    refine ax_s (pc' := 17) (st' := [.int 4]) rfl rfl rfl rfl ?_
    refine ax_s (pc' := 19) (ls' := [some (.ref 283), some (.int 20), some (.int (nI j)), some (.int 3), some (.int 4)]) (st' := []) rfl rfl rfl rfl ?_
    refine ax_s (pc' := 20) (st' := [.int 20]) rfl rfl rfl rfl ?_
    refine ax_s (pc' := 162) (ls' := [some (.ref 283), some (.int 20), some (.int (nI j)), some (.int 3), some (.int 4)]) (st' := []) (h1 := (am_hh X (am_u (am_u (am_u (am_u (am_u (am_u (am_u (am_u (am_u (am_u (am_u S 283 2 0) 284 0 11) 283 2 1) 284 1 10) 283 2 2) 284 2 22) 283 2 3) 284 3 21) 283 2 4) 284 4 20) 283 2 5) L)) rfl rfl rfl rfl ?_
    refine ax_s (pc' := 163) (st' := [.int (nI j)]) rfl rfl rfl rfl ?_
    refine ax_r rfl rfl rfl ?_
    show am_ex (d + 24) 139 173 [some (.ref 283), some (.int 21), some (.int (nI j)), some (.int 2), some (.int 3)] [.int (nI j)] (am_hh X (am_u (am_u (am_u (am_u (am_u (am_u (am_u (am_u (am_u (am_u (am_u S 283 2 0) 284 0 11) 283 2 1) 284 1 10) 283 2 2) 284 2 22) 283 2 3) 284 3 21) 283 2 4) 284 4 20) 283 2 5) L) _
    refine ax_s (pc' := 174) (st' := [.ref 283, .int (nI j)]) rfl rfl rfl rfl ?_
    refine ax_get rfl (hh_283 _ _ _) rfl rfl rfl ?_
    show am_ex (d + 24) 139 177 [some (.ref 283), some (.int 21), some (.int (nI j)), some (.int 2), some (.int 3)] [.ref 20, .int (nI j)] (am_hh X (am_u (am_u (am_u (am_u (am_u (am_u (am_u (am_u (am_u (am_u (am_u S 283 2 0) 284 0 11) 283 2 1) 284 1 10) 283 2 2) 284 2 22) 283 2 3) 284 3 21) 283 2 4) 284 4 20) 283 2 5) L) _
    refine ax_get rfl (hh_20 _ _ _) rfl rfl rfl ?_
    show am_ex (d + 24) 139 180 [some (.ref 283), some (.int 21), some (.int (nI j)), some (.int 2), some (.int 3)] [.ref 27, .int (nI j)] (am_hh X (am_u (am_u (am_u (am_u (am_u (am_u (am_u (am_u (am_u (am_u (am_u S 283 2 0) 284 0 11) 283 2 1) 284 1 10) 283 2 2) 284 2 22) 283 2 3) 284 3 21) 283 2 4) 284 4 20) 283 2 5) L) _
    refine ax_s (pc' := 181) (st' := [.int (nI j), .ref 27, .int (nI j)]) rfl rfl rfl rfl ?_
    refine ax_ald (j := j) (v := (S 27 j)) rfl (hh_27 _ _ _) rfl rfl (x1 c1) (by decide) rfl ?_
    refine ax_s (pc' := 183) (st' := [.int ((nI j) + (S 27 j))]) rfl rfl rfl rfl ?_
    refine ax_r rfl rfl rfl ?_
    show am_ex (d + 25) 139 193 [some (.ref 283), some (.int 22), some (.int (nI j)), some (.int 1), some (.int 2)] [.int ((nI j) + (S 27 j))] (am_hh X (am_u (am_u (am_u (am_u (am_u (am_u (am_u (am_u (am_u (am_u (am_u S 283 2 0) 284 0 11) 283 2 1) 284 1 10) 283 2 2) 284 2 22) 283 2 3) 284 3 21) 283 2 4) 284 4 20) 283 2 5) L) _
    refine ax_s (pc' := 196) (st' := [.int 1000, .int ((nI j) + (S 27 j))]) rfl rfl rfl rfl ?_
    refine ax_s (pc' := 197) (st' := [.int (((nI j) + (S 27 j)) - 1000)]) rfl rfl rfl rfl ?_
    refine ax_r rfl rfl rfl ?_
    show am_ex (d + 26) 137 31 [some (.ref 283), some (.int (nI j)), some (.int 1), some (.int 1)] [.int (((nI j) + (S 27 j)) - 1000)] (am_hh X (am_u (am_u (am_u (am_u (am_u (am_u (am_u (am_u (am_u (am_u (am_u S 283 2 0) 284 0 11) 283 2 1) 284 1 10) 283 2 2) 284 2 22) 283 2 3) 284 3 21) 283 2 4) 284 4 20) 283 2 5) L) _
    refine ax_r rfl rfl rfl ?_
    show am_ex (d + 27) 139 123 [some (.ref 283), some (.int 11), some (.int (nI j)), some (.int 0), some (.int 1)] [.int (((nI j) + (S 27 j)) - 1000), .int (S 23 j)] (am_hh X (am_u (am_u (am_u (am_u (am_u (am_u (am_u (am_u (am_u (am_u (am_u S 283 2 0) 284 0 11) 283 2 1) 284 1 10) 283 2 2) 284 2 22) 283 2 3) 284 3 21) 283 2 4) 284 4 20) 283 2 5) L) _
    refine ax_s (pc' := 124) (st' := [.int ((S 23 j) + (((nI j) + (S 27 j)) - 1000))]) rfl rfl rfl rfl ?_
    refine ax_r rfl rfl rfl ?_
    show am_ex (d + 28) 137 31 [some (.ref 283), some (.int (nI j)), some (.int 0), some (.int 0)] [.int ((S 23 j) + (((nI j) + (S 27 j)) - 1000))] (am_hh X (am_u (am_u (am_u (am_u (am_u (am_u (am_u (am_u (am_u (am_u (am_u S 283 2 0) 284 0 11) 283 2 1) 284 1 10) 283 2 2) 284 2 22) 283 2 3) 284 3 21) 283 2 4) 284 4 20) 283 2 5) L) _
    refine ax_r rfl rfl rfl ?_
    show am_ex (d + 29) 238 12 [some (.ref 283), some (.int (nI j)), some (.int 0)] [.int ((S 23 j) + (((nI j) + (S 27 j)) - 1000))] (am_hh X (am_u (am_u (am_u (am_u (am_u (am_u (am_u (am_u (am_u (am_u (am_u S 283 2 0) 284 0 11) 283 2 1) 284 1 10) 283 2 2) 284 2 22) 283 2 3) 284 3 21) 283 2 4) 284 4 20) 283 2 5) L) _
    refine ax_r rfl rfl rfl ?_
    show am_ex (d + 30) 136 32 [some (.ref 5), some (.int (nI j)), some (.int 0)] [.int ((S 23 j) + (((nI j) + (S 27 j)) - 1000))] (am_hh X (am_u (am_u (am_u (am_u (am_u (am_u (am_u (am_u (am_u (am_u (am_u S 283 2 0) 284 0 11) 283 2 1) 284 1 10) 283 2 2) 284 2 22) 283 2 3) 284 3 21) 283 2 4) 284 4 20) 283 2 5) L) _
    refine ax_r rfl rfl rfl ?_
    exact k2 c1
theorem wm_ask_3_0 {d : Nat} {X : Nat × (Nat → Int32)} {S : Nat → Nat → Int32} {L : Nat → Int64} {j : Nat} {Q : Option Value → am_H → Prop} (hk : S 290 j = 3) (hj : j < 6)  (x1 : ¬ (nI j) < 0 ∧ ¬ (S 285 7) - 1 < (nI j) → j < 6) (x2 : ¬ (nI j) < 0 ∧ ¬ (S 285 7) - 1 < (nI j) → (27 + j) < 39) (k1 : ¬ (¬ (nI j) < 0 ∧ ¬ (S 285 7) - 1 < (nI j)) → Q (some (.int (-1000001))) (am_hh X S L)) (k2 : ¬ (nI j) < 0 ∧ ¬ (S 285 7) - 1 < (nI j) → Q (some (.int ((S 291 j) + (((nI j) + (S 293 (27 + j))) - 1000)))) (am_hh X (am_u (am_u (am_u (am_u (am_u (am_u (am_u (am_u (am_u (am_u (am_u S 285 20 0) 299 0 11) 285 20 1) 299 1 10) 285 20 2) 299 2 22) 285 20 3) 299 3 21) 285 20 4) 299 4 20) 285 20 5) L)) : am_mt (d + 10) 224 [.ref 285, .int (nI j), .int 0] (am_hh X S L) Q := by
  refine ax_in (ls := [some (.ref 285), some (.int (nI j)), some (.int 0)]) rfl ?_
  refine ax_s (pc' := 1) (st' := [.ref 285]) rfl rfl rfl rfl ?_
  refine ax_s (pc' := 2) (st' := [.int (nI j), .ref 285]) rfl rfl rfl rfl ?_
  refine ax_call (vs := [.ref 285, .int (nI j)]) (rr := []) rfl rfl rfl ?_
  refine mt_isParty  ?_
  show am_ex (d + 10) 224 5 [some (.ref 285), some (.int (nI j)), some (.int 0)] [.int (bI (decide (¬ (nI j) < 0 ∧ ¬ (S 285 7) - 1 < (nI j))))] (am_hh X S L) _
  refine ax_pF rfl (fun c1 => ?_) (fun c1 => ?_)
  · refine ax_s (pc' := 19) (st' := [.int (-1000001)]) rfl rfl rfl rfl ?_
    refine ax_r rfl rfl rfl ?_
    exact k1 c1
  · refine ax_s (pc' := 9) (st' := [.int 0]) rfl rfl rfl rfl ?_
    refine ax_s (pc' := 10) (st' := [.int 0, .int 0]) rfl rfl rfl rfl ?_
    refine ax_s (pc' := 11) (st' := [.int 1, .int 0, .int 0]) rfl rfl rfl rfl ?_
    refine ax_call (vs := [.int 0, .int 0, .int 1]) (rr := []) rfl rfl rfl ?_
    refine mt_in ?_
    show am_ex (d + 10) 224 14 [some (.ref 285), some (.int (nI j)), some (.int 0)] [.int 1] (am_hh X S L) _
    refine ax_if_ne rfl (fun c2 => ?_) (fun c2 => False.elim (by revert c2; decide))
    refine ax_s (pc' := 21) (st' := [.ref 285]) rfl rfl rfl rfl ?_
    refine ax_s (pc' := 22) (st' := [.int 0, .ref 285]) rfl rfl rfl rfl ?_
    refine ax_put rfl (hh_285 _ _ _) rfl rfl (show 20 + 1 ≤ _ from Nat.le_of_ble_eq_true rfl) rfl (am_hh_set _ _ _ 285 20 _ rfl) ?_
    refine ax_s (pc' := 26) (st' := [.ref 285]) rfl rfl rfl rfl ?_
    refine ax_get rfl (hh_285 _ _ _) rfl rfl rfl ?_
    show am_ex (d + 10) 224 29 [some (.ref 285), some (.int (nI j)), some (.int 0)] [.ref 290] (am_hh X (am_u S 285 20 0) L) _
    refine ax_s (pc' := 30) (st' := [.int (nI j), .ref 290]) rfl rfl rfl rfl ?_
    refine ax_ald (j := j) (v := 3) rfl (hh_290 _ _ _) rfl rfl (x1 c1) (by decide) hk ?_
    refine ax_s (pc' := 32) (st' := [.int 4, .int 3]) rfl rfl rfl rfl ?_
    refine ax_cmp_ge rfl (fun c3 => False.elim (by revert c3; decide)) (fun c3 => ?_)
    refine ax_s (pc' := 36) (st' := [.int 0]) rfl rfl rfl rfl ?_
    refine ax_if_ne rfl (fun c4 => False.elim (by revert c4; decide)) (fun c4 => ?_)
    refine ax_s (pc' := 40) (st' := [.ref 285]) rfl rfl rfl rfl ?_
    refine ax_s (pc' := 41) (st' := [.int (nI j), .ref 285]) rfl rfl rfl rfl ?_
    refine ax_call (vs := [.ref 285, .int (nI j)]) (rr := []) rfl rfl rfl ?_
    refine ax_in (ls := [some (.ref 285), some (.int (nI j)), none]) rfl ?_
    refine ax_s (pc' := 1) (st' := [.ref 285]) rfl rfl rfl rfl ?_
    refine ax_get rfl (hh_285 _ _ _) rfl rfl rfl ?_
    show am_ex (d + 9) 225 4 [some (.ref 285), some (.int (nI j)), none] [.ref 290] (am_hh X (am_u S 285 20 0) L) _
    refine ax_s (pc' := 5) (st' := [.int (nI j), .ref 290]) rfl rfl rfl rfl ?_
    refine ax_ald (j := j) (v := 3) rfl (hh_290 _ _ _) rfl rfl (x1 c1) (by decide) hk ?_
    refine ax_s (pc' := 7) (st' := [.int 2, .int 3]) rfl rfl rfl rfl ?_
    refine ax_cmp_ne rfl (fun c5 => ?_) (fun c5 => False.elim (by revert c5; decide))
    refine ax_s (pc' := 17) (st' := [.ref 285]) rfl rfl rfl rfl ?_
    refine ax_s (pc' := 19) (st' := [.int 11, .ref 285]) rfl rfl rfl rfl ?_
    refine ax_call (vs := [.ref 285, .int 11]) (rr := []) rfl rfl rfl ?_
    refine ax_in (ls := [some (.ref 285), some (.int 11)]) rfl ?_
    refine ax_s (pc' := 1) (st' := [.ref 285]) rfl rfl rfl rfl ?_
    refine ax_get rfl (hh_285 _ _ _) rfl rfl rfl ?_
    show am_ex (d + 8) 226 4 [some (.ref 285), some (.int 11)] [.int 0] (am_hh X (am_u S 285 20 0) L) _
    refine ax_s (pc' := 6) (st' := [.int 16, .int 0]) rfl rfl rfl rfl ?_
    refine ax_cmp_ge rfl (fun c6 => False.elim (by revert c6; decide)) (fun c6 => ?_)
    refine ax_s (pc' := 10) (st' := [.ref 285]) rfl rfl rfl rfl ?_
    refine ax_get rfl (hh_285 _ _ _) rfl rfl rfl ?_
    show am_ex (d + 8) 226 13 [some (.ref 285), some (.int 11)] [.ref 299] (am_hh X (am_u S 285 20 0) L) _
    refine ax_s (pc' := 14) (st' := [.ref 285, .ref 299]) rfl rfl rfl rfl ?_
    refine ax_get rfl (hh_285 _ _ _) rfl rfl rfl ?_
    show am_ex (d + 8) 226 17 [some (.ref 285), some (.int 11)] [.int 0, .ref 299] (am_hh X (am_u S 285 20 0) L) _
    refine ax_s (pc' := 18) (st' := [.int 11, .int 0, .ref 299]) rfl rfl rfl rfl ?_
    refine ax_ast (j := 0) rfl (hh_299 _ _ _) rfl rfl (by decide) (by decide) (am_hh_set _ _ _ 299 0 _ rfl) ?_
    refine ax_s (pc' := 20) (st' := [.ref 285]) rfl rfl rfl rfl ?_
    refine ax_s (pc' := 21) (st' := [.ref 285, .ref 285]) rfl rfl rfl rfl ?_
    refine ax_get rfl (hh_285 _ _ _) rfl rfl rfl ?_
    show am_ex (d + 8) 226 24 [some (.ref 285), some (.int 11)] [.int 0, .ref 285] (am_hh X (am_u (am_u S 285 20 0) 299 0 11) L) _
    refine ax_s (pc' := 25) (st' := [.int 1, .int 0, .ref 285]) rfl rfl rfl rfl ?_
    refine ax_s (pc' := 26) (st' := [.int 1, .ref 285]) rfl rfl rfl rfl ?_
    refine ax_put rfl (hh_285 _ _ _) rfl rfl (show 20 + 1 ≤ _ from Nat.le_of_ble_eq_true rfl) rfl (am_hh_set _ _ _ 285 20 _ rfl) ?_
    refine ax_r rfl rfl rfl ?_
    show am_ex (d + 9) 225 22 [some (.ref 285), some (.int (nI j)), none] [] (am_hh X (am_u (am_u (am_u S 285 20 0) 299 0 11) 285 20 1) L) _
    refine ax_s (pc' := 23) (st' := [.ref 285]) rfl rfl rfl rfl ?_
    refine ax_s (pc' := 24) (st' := [.int (nI j), .ref 285]) rfl rfl rfl rfl ?_
    refine ax_call (vs := [.ref 285, .int (nI j)]) (rr := []) rfl rfl rfl ?_
    refine ax_in (ls := [some (.ref 285), some (.int (nI j))]) rfl ?_
    refine ax_s (pc' := 1) (st' := [.ref 285]) rfl rfl rfl rfl ?_
    refine ax_s (pc' := 3) (st' := [.int 10, .ref 285]) rfl rfl rfl rfl ?_
    refine ax_call (vs := [.ref 285, .int 10]) (rr := []) rfl rfl rfl ?_
    refine ax_in (ls := [some (.ref 285), some (.int 10)]) rfl ?_
    refine ax_s (pc' := 1) (st' := [.ref 285]) rfl rfl rfl rfl ?_
    refine ax_get rfl (hh_285 _ _ _) rfl rfl rfl ?_
    show am_ex (d + 7) 226 4 [some (.ref 285), some (.int 10)] [.int 1] (am_hh X (am_u (am_u (am_u S 285 20 0) 299 0 11) 285 20 1) L) _
    refine ax_s (pc' := 6) (st' := [.int 16, .int 1]) rfl rfl rfl rfl ?_
    refine ax_cmp_ge rfl (fun c7 => False.elim (by revert c7; decide)) (fun c7 => ?_)
    refine ax_s (pc' := 10) (st' := [.ref 285]) rfl rfl rfl rfl ?_
    refine ax_get rfl (hh_285 _ _ _) rfl rfl rfl ?_
    show am_ex (d + 7) 226 13 [some (.ref 285), some (.int 10)] [.ref 299] (am_hh X (am_u (am_u (am_u S 285 20 0) 299 0 11) 285 20 1) L) _
    refine ax_s (pc' := 14) (st' := [.ref 285, .ref 299]) rfl rfl rfl rfl ?_
    refine ax_get rfl (hh_285 _ _ _) rfl rfl rfl ?_
    show am_ex (d + 7) 226 17 [some (.ref 285), some (.int 10)] [.int 1, .ref 299] (am_hh X (am_u (am_u (am_u S 285 20 0) 299 0 11) 285 20 1) L) _
    refine ax_s (pc' := 18) (st' := [.int 10, .int 1, .ref 299]) rfl rfl rfl rfl ?_
    refine ax_ast (j := 1) rfl (hh_299 _ _ _) rfl rfl (by decide) (by decide) (am_hh_set _ _ _ 299 1 _ rfl) ?_
    refine ax_s (pc' := 20) (st' := [.ref 285]) rfl rfl rfl rfl ?_
    refine ax_s (pc' := 21) (st' := [.ref 285, .ref 285]) rfl rfl rfl rfl ?_
    refine ax_get rfl (hh_285 _ _ _) rfl rfl rfl ?_
    show am_ex (d + 7) 226 24 [some (.ref 285), some (.int 10)] [.int 1, .ref 285] (am_hh X (am_u (am_u (am_u (am_u S 285 20 0) 299 0 11) 285 20 1) 299 1 10) L) _
    refine ax_s (pc' := 25) (st' := [.int 1, .int 1, .ref 285]) rfl rfl rfl rfl ?_
    refine ax_s (pc' := 26) (st' := [.int 2, .ref 285]) rfl rfl rfl rfl ?_
    refine ax_put rfl (hh_285 _ _ _) rfl rfl (show 20 + 1 ≤ _ from Nat.le_of_ble_eq_true rfl) rfl (am_hh_set _ _ _ 285 20 _ rfl) ?_
    refine ax_r rfl rfl rfl ?_
    show am_ex (d + 8) 227 6 [some (.ref 285), some (.int (nI j))] [] (am_hh X (am_u (am_u (am_u (am_u (am_u S 285 20 0) 299 0 11) 285 20 1) 299 1 10) 285 20 2) L) _
    refine ax_s (pc' := 7) (st' := [.ref 285]) rfl rfl rfl rfl ?_
    refine ax_get rfl (hh_285 _ _ _) rfl rfl rfl ?_
    show am_ex (d + 8) 227 10 [some (.ref 285), some (.int (nI j))] [.ref 291] (am_hh X (am_u (am_u (am_u (am_u (am_u S 285 20 0) 299 0 11) 285 20 1) 299 1 10) 285 20 2) L) _
    refine ax_s (pc' := 11) (st' := [.int (nI j), .ref 291]) rfl rfl rfl rfl ?_
    refine ax_ald (j := j) (v := (S 291 j)) rfl (hh_291 _ _ _) rfl rfl (x1 c1) (by decide) rfl ?_
    refine ax_r rfl rfl rfl ?_
    show am_ex (d + 9) 225 27 [some (.ref 285), some (.int (nI j)), none] [.int (S 291 j)] (am_hh X (am_u (am_u (am_u (am_u (am_u S 285 20 0) 299 0 11) 285 20 1) 299 1 10) 285 20 2) L) _
    refine ax_s (pc' := 28) (st' := [.ref 285, .int (S 291 j)]) rfl rfl rfl rfl ?_
    refine ax_s (pc' := 29) (st' := [.int (nI j), .ref 285, .int (S 291 j)]) rfl rfl rfl rfl ?_
    refine ax_call (vs := [.ref 285, .int (nI j)]) (rr := [.int (S 291 j)]) rfl rfl rfl ?_
    refine ax_in (ls := [some (.ref 285), some (.int (nI j))]) rfl ?_
    refine ax_s (pc' := 1) (st' := [.ref 285]) rfl rfl rfl rfl ?_
    refine ax_get rfl (hh_285 _ _ _) rfl rfl rfl ?_
    show am_ex (d + 8) 228 4 [some (.ref 285), some (.int (nI j))] [.ref 290] (am_hh X (am_u (am_u (am_u (am_u (am_u S 285 20 0) 299 0 11) 285 20 1) 299 1 10) 285 20 2) L) _
    refine ax_s (pc' := 5) (st' := [.int (nI j), .ref 290]) rfl rfl rfl rfl ?_
    refine ax_ald (j := j) (v := 3) rfl (hh_290 _ _ _) rfl rfl (x1 c1) (by decide) hk ?_
    refine ax_s (pc' := 7) (st' := [.int 3, .int 3]) rfl rfl rfl rfl ?_
    refine ax_cmp_ne rfl (fun c8 => False.elim (by revert c8; decide)) (fun c8 => ?_)
    refine ax_s (pc' := 11) (st' := [.ref 285]) rfl rfl rfl rfl ?_
    refine ax_s (pc' := 13) (st' := [.int 22, .ref 285]) rfl rfl rfl rfl ?_
    refine ax_call (vs := [.ref 285, .int 22]) (rr := []) rfl rfl rfl ?_
    refine ax_in (ls := [some (.ref 285), some (.int 22)]) rfl ?_
    refine ax_s (pc' := 1) (st' := [.ref 285]) rfl rfl rfl rfl ?_
    refine ax_get rfl (hh_285 _ _ _) rfl rfl rfl ?_
    show am_ex (d + 7) 226 4 [some (.ref 285), some (.int 22)] [.int 2] (am_hh X (am_u (am_u (am_u (am_u (am_u S 285 20 0) 299 0 11) 285 20 1) 299 1 10) 285 20 2) L) _
    refine ax_s (pc' := 6) (st' := [.int 16, .int 2]) rfl rfl rfl rfl ?_
    refine ax_cmp_ge rfl (fun c9 => False.elim (by revert c9; decide)) (fun c9 => ?_)
    refine ax_s (pc' := 10) (st' := [.ref 285]) rfl rfl rfl rfl ?_
    refine ax_get rfl (hh_285 _ _ _) rfl rfl rfl ?_
    show am_ex (d + 7) 226 13 [some (.ref 285), some (.int 22)] [.ref 299] (am_hh X (am_u (am_u (am_u (am_u (am_u S 285 20 0) 299 0 11) 285 20 1) 299 1 10) 285 20 2) L) _
    refine ax_s (pc' := 14) (st' := [.ref 285, .ref 299]) rfl rfl rfl rfl ?_
    refine ax_get rfl (hh_285 _ _ _) rfl rfl rfl ?_
    show am_ex (d + 7) 226 17 [some (.ref 285), some (.int 22)] [.int 2, .ref 299] (am_hh X (am_u (am_u (am_u (am_u (am_u S 285 20 0) 299 0 11) 285 20 1) 299 1 10) 285 20 2) L) _
    refine ax_s (pc' := 18) (st' := [.int 22, .int 2, .ref 299]) rfl rfl rfl rfl ?_
    refine ax_ast (j := 2) rfl (hh_299 _ _ _) rfl rfl (by decide) (by decide) (am_hh_set _ _ _ 299 2 _ rfl) ?_
    refine ax_s (pc' := 20) (st' := [.ref 285]) rfl rfl rfl rfl ?_
    refine ax_s (pc' := 21) (st' := [.ref 285, .ref 285]) rfl rfl rfl rfl ?_
    refine ax_get rfl (hh_285 _ _ _) rfl rfl rfl ?_
    show am_ex (d + 7) 226 24 [some (.ref 285), some (.int 22)] [.int 2, .ref 285] (am_hh X (am_u (am_u (am_u (am_u (am_u (am_u S 285 20 0) 299 0 11) 285 20 1) 299 1 10) 285 20 2) 299 2 22) L) _
    refine ax_s (pc' := 25) (st' := [.int 1, .int 2, .ref 285]) rfl rfl rfl rfl ?_
    refine ax_s (pc' := 26) (st' := [.int 3, .ref 285]) rfl rfl rfl rfl ?_
    refine ax_put rfl (hh_285 _ _ _) rfl rfl (show 20 + 1 ≤ _ from Nat.le_of_ble_eq_true rfl) rfl (am_hh_set _ _ _ 285 20 _ rfl) ?_
    refine ax_r rfl rfl rfl ?_
    show am_ex (d + 8) 228 16 [some (.ref 285), some (.int (nI j))] [] (am_hh X (am_u (am_u (am_u (am_u (am_u (am_u (am_u S 285 20 0) 299 0 11) 285 20 1) 299 1 10) 285 20 2) 299 2 22) 285 20 3) L) _
    refine ax_s (pc' := 17) (st' := [.ref 285]) rfl rfl rfl rfl ?_
    refine ax_s (pc' := 18) (st' := [.int (nI j), .ref 285]) rfl rfl rfl rfl ?_
    refine ax_call (vs := [.ref 285, .int (nI j)]) (rr := []) rfl rfl rfl ?_
    refine ax_in (ls := [some (.ref 285), some (.int (nI j))]) rfl ?_
    refine ax_s (pc' := 1) (st' := [.ref 285]) rfl rfl rfl rfl ?_
    refine ax_s (pc' := 3) (st' := [.int 21, .ref 285]) rfl rfl rfl rfl ?_
    refine ax_call (vs := [.ref 285, .int 21]) (rr := []) rfl rfl rfl ?_
    refine ax_in (ls := [some (.ref 285), some (.int 21)]) rfl ?_
    refine ax_s (pc' := 1) (st' := [.ref 285]) rfl rfl rfl rfl ?_
    refine ax_get rfl (hh_285 _ _ _) rfl rfl rfl ?_
    show am_ex (d + 6) 226 4 [some (.ref 285), some (.int 21)] [.int 3] (am_hh X (am_u (am_u (am_u (am_u (am_u (am_u (am_u S 285 20 0) 299 0 11) 285 20 1) 299 1 10) 285 20 2) 299 2 22) 285 20 3) L) _
    refine ax_s (pc' := 6) (st' := [.int 16, .int 3]) rfl rfl rfl rfl ?_
    refine ax_cmp_ge rfl (fun c10 => False.elim (by revert c10; decide)) (fun c10 => ?_)
    refine ax_s (pc' := 10) (st' := [.ref 285]) rfl rfl rfl rfl ?_
    refine ax_get rfl (hh_285 _ _ _) rfl rfl rfl ?_
    show am_ex (d + 6) 226 13 [some (.ref 285), some (.int 21)] [.ref 299] (am_hh X (am_u (am_u (am_u (am_u (am_u (am_u (am_u S 285 20 0) 299 0 11) 285 20 1) 299 1 10) 285 20 2) 299 2 22) 285 20 3) L) _
    refine ax_s (pc' := 14) (st' := [.ref 285, .ref 299]) rfl rfl rfl rfl ?_
    refine ax_get rfl (hh_285 _ _ _) rfl rfl rfl ?_
    show am_ex (d + 6) 226 17 [some (.ref 285), some (.int 21)] [.int 3, .ref 299] (am_hh X (am_u (am_u (am_u (am_u (am_u (am_u (am_u S 285 20 0) 299 0 11) 285 20 1) 299 1 10) 285 20 2) 299 2 22) 285 20 3) L) _
    refine ax_s (pc' := 18) (st' := [.int 21, .int 3, .ref 299]) rfl rfl rfl rfl ?_
    refine ax_ast (j := 3) rfl (hh_299 _ _ _) rfl rfl (by decide) (by decide) (am_hh_set _ _ _ 299 3 _ rfl) ?_
    refine ax_s (pc' := 20) (st' := [.ref 285]) rfl rfl rfl rfl ?_
    refine ax_s (pc' := 21) (st' := [.ref 285, .ref 285]) rfl rfl rfl rfl ?_
    refine ax_get rfl (hh_285 _ _ _) rfl rfl rfl ?_
    show am_ex (d + 6) 226 24 [some (.ref 285), some (.int 21)] [.int 3, .ref 285] (am_hh X (am_u (am_u (am_u (am_u (am_u (am_u (am_u (am_u S 285 20 0) 299 0 11) 285 20 1) 299 1 10) 285 20 2) 299 2 22) 285 20 3) 299 3 21) L) _
    refine ax_s (pc' := 25) (st' := [.int 1, .int 3, .ref 285]) rfl rfl rfl rfl ?_
    refine ax_s (pc' := 26) (st' := [.int 4, .ref 285]) rfl rfl rfl rfl ?_
    refine ax_put rfl (hh_285 _ _ _) rfl rfl (show 20 + 1 ≤ _ from Nat.le_of_ble_eq_true rfl) rfl (am_hh_set _ _ _ 285 20 _ rfl) ?_
    refine ax_r rfl rfl rfl ?_
    show am_ex (d + 7) 229 6 [some (.ref 285), some (.int (nI j))] [] (am_hh X (am_u (am_u (am_u (am_u (am_u (am_u (am_u (am_u (am_u S 285 20 0) 299 0 11) 285 20 1) 299 1 10) 285 20 2) 299 2 22) 285 20 3) 299 3 21) 285 20 4) L) _
    refine ax_s (pc' := 7) (st' := [.ref 285]) rfl rfl rfl rfl ?_
    refine ax_s (pc' := 8) (st' := [.int (nI j), .ref 285]) rfl rfl rfl rfl ?_
    refine ax_call (vs := [.ref 285, .int (nI j)]) (rr := []) rfl rfl rfl ?_
    refine ax_in (ls := [some (.ref 285), some (.int (nI j))]) rfl ?_
    refine ax_s (pc' := 1) (st' := [.ref 285]) rfl rfl rfl rfl ?_
    refine ax_s (pc' := 3) (st' := [.int 20, .ref 285]) rfl rfl rfl rfl ?_
    refine ax_call (vs := [.ref 285, .int 20]) (rr := []) rfl rfl rfl ?_
    refine ax_in (ls := [some (.ref 285), some (.int 20)]) rfl ?_
    refine ax_s (pc' := 1) (st' := [.ref 285]) rfl rfl rfl rfl ?_
    refine ax_get rfl (hh_285 _ _ _) rfl rfl rfl ?_
    show am_ex (d + 5) 226 4 [some (.ref 285), some (.int 20)] [.int 4] (am_hh X (am_u (am_u (am_u (am_u (am_u (am_u (am_u (am_u (am_u S 285 20 0) 299 0 11) 285 20 1) 299 1 10) 285 20 2) 299 2 22) 285 20 3) 299 3 21) 285 20 4) L) _
    refine ax_s (pc' := 6) (st' := [.int 16, .int 4]) rfl rfl rfl rfl ?_
    refine ax_cmp_ge rfl (fun c11 => False.elim (by revert c11; decide)) (fun c11 => ?_)
    refine ax_s (pc' := 10) (st' := [.ref 285]) rfl rfl rfl rfl ?_
    refine ax_get rfl (hh_285 _ _ _) rfl rfl rfl ?_
    show am_ex (d + 5) 226 13 [some (.ref 285), some (.int 20)] [.ref 299] (am_hh X (am_u (am_u (am_u (am_u (am_u (am_u (am_u (am_u (am_u S 285 20 0) 299 0 11) 285 20 1) 299 1 10) 285 20 2) 299 2 22) 285 20 3) 299 3 21) 285 20 4) L) _
    refine ax_s (pc' := 14) (st' := [.ref 285, .ref 299]) rfl rfl rfl rfl ?_
    refine ax_get rfl (hh_285 _ _ _) rfl rfl rfl ?_
    show am_ex (d + 5) 226 17 [some (.ref 285), some (.int 20)] [.int 4, .ref 299] (am_hh X (am_u (am_u (am_u (am_u (am_u (am_u (am_u (am_u (am_u S 285 20 0) 299 0 11) 285 20 1) 299 1 10) 285 20 2) 299 2 22) 285 20 3) 299 3 21) 285 20 4) L) _
    refine ax_s (pc' := 18) (st' := [.int 20, .int 4, .ref 299]) rfl rfl rfl rfl ?_
    refine ax_ast (j := 4) rfl (hh_299 _ _ _) rfl rfl (by decide) (by decide) (am_hh_set _ _ _ 299 4 _ rfl) ?_
    refine ax_s (pc' := 20) (st' := [.ref 285]) rfl rfl rfl rfl ?_
    refine ax_s (pc' := 21) (st' := [.ref 285, .ref 285]) rfl rfl rfl rfl ?_
    refine ax_get rfl (hh_285 _ _ _) rfl rfl rfl ?_
    show am_ex (d + 5) 226 24 [some (.ref 285), some (.int 20)] [.int 4, .ref 285] (am_hh X (am_u (am_u (am_u (am_u (am_u (am_u (am_u (am_u (am_u (am_u S 285 20 0) 299 0 11) 285 20 1) 299 1 10) 285 20 2) 299 2 22) 285 20 3) 299 3 21) 285 20 4) 299 4 20) L) _
    refine ax_s (pc' := 25) (st' := [.int 1, .int 4, .ref 285]) rfl rfl rfl rfl ?_
    refine ax_s (pc' := 26) (st' := [.int 5, .ref 285]) rfl rfl rfl rfl ?_
    refine ax_put rfl (hh_285 _ _ _) rfl rfl (show 20 + 1 ≤ _ from Nat.le_of_ble_eq_true rfl) rfl (am_hh_set _ _ _ 285 20 _ rfl) ?_
    refine ax_r rfl rfl rfl ?_
    show am_ex (d + 6) 230 6 [some (.ref 285), some (.int (nI j))] [] (am_hh X (am_u (am_u (am_u (am_u (am_u (am_u (am_u (am_u (am_u (am_u (am_u S 285 20 0) 299 0 11) 285 20 1) 299 1 10) 285 20 2) 299 2 22) 285 20 3) 299 3 21) 285 20 4) 299 4 20) 285 20 5) L) _
    refine ax_s (pc' := 7) (st' := [.int (nI j)]) rfl rfl rfl rfl ?_
    refine ax_r rfl rfl rfl ?_
    show am_ex (d + 7) 229 11 [some (.ref 285), some (.int (nI j))] [.int (nI j)] (am_hh X (am_u (am_u (am_u (am_u (am_u (am_u (am_u (am_u (am_u (am_u (am_u S 285 20 0) 299 0 11) 285 20 1) 299 1 10) 285 20 2) 299 2 22) 285 20 3) 299 3 21) 285 20 4) 299 4 20) 285 20 5) L) _
    refine ax_s (pc' := 12) (st' := [.ref 285, .int (nI j)]) rfl rfl rfl rfl ?_
    refine ax_get rfl (hh_285 _ _ _) rfl rfl rfl ?_
    show am_ex (d + 7) 229 15 [some (.ref 285), some (.int (nI j))] [.ref 293, .int (nI j)] (am_hh X (am_u (am_u (am_u (am_u (am_u (am_u (am_u (am_u (am_u (am_u (am_u S 285 20 0) 299 0 11) 285 20 1) 299 1 10) 285 20 2) 299 2 22) 285 20 3) 299 3 21) 285 20 4) 299 4 20) 285 20 5) L) _
    refine ax_s (pc' := 17) (st' := [.int 27, .ref 293, .int (nI j)]) rfl rfl rfl rfl ?_
    refine ax_s (pc' := 18) (st' := [.int (nI j), .int 27, .ref 293, .int (nI j)]) rfl rfl rfl rfl ?_
    refine ax_s (pc' := 19) (st' := [.int (27 + (nI j)), .ref 293, .int (nI j)]) rfl rfl rfl rfl ?_
    refine ax_ald (j := (27 + j)) (v := (S 293 (27 + j))) rfl (hh_293 _ _ _) rfl (am_na (x := 27) (y := j) rfl rfl) (x2 c1) (by decide) rfl ?_
    refine ax_s (pc' := 21) (st' := [.int ((nI j) + (S 293 (27 + j)))]) rfl rfl rfl rfl ?_
    refine ax_r rfl rfl rfl ?_
    show am_ex (d + 8) 228 21 [some (.ref 285), some (.int (nI j))] [.int ((nI j) + (S 293 (27 + j)))] (am_hh X (am_u (am_u (am_u (am_u (am_u (am_u (am_u (am_u (am_u (am_u (am_u S 285 20 0) 299 0 11) 285 20 1) 299 1 10) 285 20 2) 299 2 22) 285 20 3) 299 3 21) 285 20 4) 299 4 20) 285 20 5) L) _
    refine ax_s (pc' := 24) (st' := [.int 1000, .int ((nI j) + (S 293 (27 + j)))]) rfl rfl rfl rfl ?_
    refine ax_s (pc' := 25) (st' := [.int (((nI j) + (S 293 (27 + j))) - 1000)]) rfl rfl rfl rfl ?_
    refine ax_r rfl rfl rfl ?_
    show am_ex (d + 9) 225 32 [some (.ref 285), some (.int (nI j)), none] [.int (((nI j) + (S 293 (27 + j))) - 1000), .int (S 291 j)] (am_hh X (am_u (am_u (am_u (am_u (am_u (am_u (am_u (am_u (am_u (am_u (am_u S 285 20 0) 299 0 11) 285 20 1) 299 1 10) 285 20 2) 299 2 22) 285 20 3) 299 3 21) 285 20 4) 299 4 20) 285 20 5) L) _
    refine ax_s (pc' := 33) (st' := [.int ((S 291 j) + (((nI j) + (S 293 (27 + j))) - 1000))]) rfl rfl rfl rfl ?_
    refine ax_s (pc' := 34) (ls' := [some (.ref 285), some (.int (nI j)), some (.int ((S 291 j) + (((nI j) + (S 293 (27 + j))) - 1000)))]) (st' := []) rfl rfl rfl rfl ?_
    refine ax_s (pc' := 35) (st' := [.ref 285]) rfl rfl rfl rfl ?_
    refine ax_get rfl (hh_285 _ _ _) rfl rfl rfl ?_
    show am_ex (d + 9) 225 38 [some (.ref 285), some (.int (nI j)), some (.int ((S 291 j) + (((nI j) + (S 293 (27 + j))) - 1000)))] [.ref 290] (am_hh X (am_u (am_u (am_u (am_u (am_u (am_u (am_u (am_u (am_u (am_u (am_u S 285 20 0) 299 0 11) 285 20 1) 299 1 10) 285 20 2) 299 2 22) 285 20 3) 299 3 21) 285 20 4) 299 4 20) 285 20 5) L) _
    refine ax_s (pc' := 39) (st' := [.int (nI j), .ref 290]) rfl rfl rfl rfl ?_
    refine ax_ald (j := j) (v := 3) rfl (hh_290 _ _ _) rfl rfl (x1 c1) (by decide) hk ?_
    refine ax_s (pc' := 41) (st' := [.int 2, .int 3]) rfl rfl rfl rfl ?_
    refine ax_cmp_ne rfl (fun c12 => ?_) (fun c12 => False.elim (by revert c12; decide))
    refine ax_s (pc' := 50) (st' := [.int ((S 291 j) + (((nI j) + (S 293 (27 + j))) - 1000))]) rfl rfl rfl rfl ?_
    refine ax_r rfl rfl rfl ?_
    show am_ex (d + 10) 224 44 [some (.ref 285), some (.int (nI j)), some (.int 0)] [.int ((S 291 j) + (((nI j) + (S 293 (27 + j))) - 1000))] (am_hh X (am_u (am_u (am_u (am_u (am_u (am_u (am_u (am_u (am_u (am_u (am_u S 285 20 0) 299 0 11) 285 20 1) 299 1 10) 285 20 2) 299 2 22) 285 20 3) 299 3 21) 285 20 4) 299 4 20) 285 20 5) L) _
    refine ax_s (pc' := 52) (st' := [.int ((S 291 j) + (((nI j) + (S 293 (27 + j))) - 1000))]) rfl rfl rfl rfl ?_
    refine ax_r rfl rfl rfl ?_
    exact k2 c1
theorem wk_ask_3_1 {d : Nat} {X : Nat × (Nat → Int32)} {S : Nat → Nat → Int32} {L : Nat → Int64} {j : Nat} {Q : Option Value → am_H → Prop} (hk : S 22 j = 3) (hj : j < 6)  (x1 : ¬ (nI j) < 0 ∧ ¬ (S 20 4) ≤ (nI j) → j < 6) (k1 : ¬ (¬ (nI j) < 0 ∧ ¬ (S 20 4) ≤ (nI j)) → Q (some (.int (-1000001))) (am_hh X S L)) (k2 : ¬ (nI j) < 0 ∧ ¬ (S 20 4) ≤ (nI j) → Q (some (.int (((nI j) + (S 27 j)) - 1000))) (am_hh X (am_u (am_u (am_u (am_u (am_u (am_u (am_u S 283 2 0) 284 0 22) 283 2 1) 284 1 21) 283 2 2) 284 2 20) 283 2 3) L)) : am_mt (d + 30) 136 [.ref 5, .int (nI j), .int 1] (am_hh X S L) Q := by
  refine ax_in (ls := [some (.ref 5), some (.int (nI j)), some (.int 1)]) rfl ?_
  refine ax_s (pc' := 1) (st' := [.ref 5]) rfl rfl rfl rfl ?_
  refine ax_get rfl (hh_5 _ _ _) rfl rfl rfl ?_
  show am_ex (d + 30) 136 4 [some (.ref 5), some (.int (nI j)), some (.int 1)] [.ref 20] (am_hh X S L) _
  refine ax_s (pc' := 5) (st' := [.int (nI j), .ref 20]) rfl rfl rfl rfl ?_
  refine ax_call (vs := [.ref 20, .int (nI j)]) (rr := []) rfl rfl rfl ?_
  refine kw (am_hh_sub isW20 X S L) (am_hh_sub isW20 X S L).symm (fun _ => ct_hasParty (am_isW_k isW20 X S L)) ?_
  show am_ex (d + 30) 136 8 [some (.ref 5), some (.int (nI j)), some (.int 1)] [.int (bI (decide (¬ (nI j) < 0 ∧ ¬ (S 20 4) ≤ (nI j))))] (am_hh X S L) _
  refine ax_pF rfl (fun c1 => ?_) (fun c1 => ?_)
  · refine ax_s (pc' := 22) (st' := [.int (-1000001)]) rfl rfl rfl rfl ?_
    refine ax_r rfl rfl rfl ?_
    exact k1 c1
  · refine ax_s (pc' := 12) (st' := [.int 1]) rfl rfl rfl rfl ?_
    refine ax_s (pc' := 13) (st' := [.int 0, .int 1]) rfl rfl rfl rfl ?_
    refine ax_s (pc' := 14) (st' := [.int 1, .int 0, .int 1]) rfl rfl rfl rfl ?_
    refine ax_call (vs := [.int 1, .int 0, .int 1]) (rr := []) rfl rfl rfl ?_
    refine ct_isOutside ?_
    show am_ex (d + 30) 136 17 [some (.ref 5), some (.int (nI j)), some (.int 1)] [.int 0] (am_hh X S L) _
    refine ax_if_eq rfl (fun c2 => ?_) (fun c2 => False.elim (by revert c2; decide))
    refine ax_s (pc' := 24) (st' := [.ref 5]) rfl rfl rfl rfl ?_
    refine ax_get rfl (hh_5 _ _ _) rfl rfl rfl ?_
    show am_ex (d + 30) 136 27 [some (.ref 5), some (.int (nI j)), some (.int 1)] [.ref 283] (am_hh X S L) _
    refine ax_s (pc' := 28) (st' := [.int (nI j), .ref 283]) rfl rfl rfl rfl ?_
    refine ax_s (pc' := 29) (st' := [.int 1, .int (nI j), .ref 283]) rfl rfl rfl rfl ?_
    refine ax_call (vs := [.ref 283, .int (nI j), .int 1]) (rr := []) rfl rfl rfl ?_
    refine ax_in (ls := [some (.ref 283), some (.int (nI j)), some (.int 1)]) rfl ?_
    refine ax_s (pc' := 1) (st' := [.ref 283]) rfl rfl rfl rfl ?_
    refine ax_s (pc' := 2) (st' := [.int 0, .ref 283]) rfl rfl rfl rfl ?_
    refine ax_put rfl (hh_283 _ _ _) rfl rfl (show 2 + 1 ≤ _ from Nat.le_of_ble_eq_true rfl) rfl (am_hh_set _ _ _ 283 2 _ rfl) ?_
    refine ax_s (pc' := 6) (st' := [.ref 283]) rfl rfl rfl rfl ?_
    refine ax_s (pc' := 7) (st' := [.int (nI j), .ref 283]) rfl rfl rfl rfl ?_
    refine ax_s (pc' := 8) (st' := [.int 1, .int (nI j), .ref 283]) rfl rfl rfl rfl ?_
    refine ax_s (pc' := 9) (st' := [.int 0, .int 1, .int (nI j), .ref 283]) rfl rfl rfl rfl ?_
    refine ax_call (vs := [.ref 283, .int (nI j), .int 1, .int 0]) (rr := []) rfl rfl rfl ?_
    refine ax_in (ls := [some (.ref 283), some (.int (nI j)), some (.int 1), some (.int 0)]) rfl ?_
    refine ax_s (pc' := 1) (st' := [.ref 283]) rfl rfl rfl rfl ?_
    refine ax_s (pc' := 2) (st' := [.ref 283, .ref 283]) rfl rfl rfl rfl ?_
    refine ax_get rfl (hh_283 _ _ _) rfl rfl rfl ?_
    show am_ex (d + 28) 137 5 [some (.ref 283), some (.int (nI j)), some (.int 1), some (.int 0)] [.ref 20, .ref 283] (am_hh X (am_u S 283 2 0) L) _
    refine ax_get rfl (hh_20 _ _ _) rfl rfl rfl ?_
    show am_ex (d + 28) 137 8 [some (.ref 283), some (.int (nI j)), some (.int 1), some (.int 0)] [.ref 22, .ref 283] (am_hh X (am_u S 283 2 0) L) _
    refine ax_s (pc' := 9) (st' := [.int (nI j), .ref 22, .ref 283]) rfl rfl rfl rfl ?_
    refine ax_ald (j := j) (v := 3) rfl (hh_22 _ _ _) rfl rfl (x1 c1) (by decide) hk ?_
    refine ax_s (pc' := 11) (st' := [.int 1, .int 3, .ref 283]) rfl rfl rfl rfl ?_
    refine ax_if_ne rfl (fun c3 => ?_) (fun c3 => False.elim (by revert c3; decide))
    refine ax_s (pc' := 23) (st' := [.ref 4, .int 3, .ref 283]) rfl rfl rfl rfl ?_
    refine ax_call (vs := [.int 3, .ref 4]) (rr := [.ref 283]) rfl rfl rfl ?_
    refine ax_in (ls := [some (.int 3), some (.ref 4), none, none]) rfl ?_
    refine ax_s (pc' := 1) (st' := [.int 3]) rfl rfl rfl rfl ?_
    refine ax_s (pc' := 2) (ls' := [some (.int 3), some (.ref 4), some (.int 3), none]) (st' := []) rfl rfl rfl rfl ?_
    refine ax_s (pc' := 3) (st' := [.int 0]) rfl rfl rfl rfl ?_
    refine ax_s (pc' := 4) (ls' := [some (.int 3), some (.ref 4), some (.int 3), some (.int 0)]) (st' := []) rfl rfl rfl rfl ?_
    refine ax_s (pc' := 5) (st' := [.int 0]) rfl rfl rfl rfl ?_
    refine ax_s (pc' := 6) (st' := [.int 5, .int 0]) rfl rfl rfl rfl ?_
    refine ax_cmp_gt rfl (fun c4 => False.elim (by revert c4; decide)) (fun c4 => ?_)
    refine ax_s (pc' := 10) (st' := [.int 3]) rfl rfl rfl rfl ?_
    refine ax_call (vs := [.int 3]) (rr := []) rfl rfl rfl ?_
    refine ax_in (ls := [some (.int 3)]) rfl ?_
    refine ax_s (pc' := 1) (st' := [.int 3]) rfl rfl rfl rfl ?_
    refine ax_if_lt rfl (fun c5 => False.elim (by revert c5; decide)) (fun c5 => ?_)
    refine ax_s (pc' := 5) (st' := [.int 3]) rfl rfl rfl rfl ?_
    refine ax_s (pc' := 6) (st' := [.int 5, .int 3]) rfl rfl rfl rfl ?_
    refine ax_cmp_gt rfl (fun c6 => False.elim (by revert c6; decide)) (fun c6 => ?_)
    refine ax_s (pc' := 10) (st' := [.int 1]) rfl rfl rfl rfl ?_
    refine ax_s (pc' := 14) (st' := [.int 1]) rfl rfl rfl rfl ?_
    refine ax_rb (b := true) rfl rfl ?_
    show am_ex (d + 27) 138 13 [some (.int 3), some (.ref 4), some (.int 3), some (.int 0)] [.int 1] (am_hh X (am_u S 283 2 0) L) _
    refine ax_if_eq rfl (fun c7 => False.elim (by revert c7; decide)) (fun c7 => ?_)
    refine ax_s (pc' := 17) (st' := [.ref 4]) rfl rfl rfl rfl ?_
    refine ax_s (pc' := 18) (st' := [.int 3, .ref 4]) rfl rfl rfl rfl ?_
    refine ax_ald (j := 3) (v := 22) rfl (hh_s4 _ _ _) rfl rfl (by decide) (by decide) rfl ?_
    refine ax_s (pc' := 21) (st' := [.int (-1000000), .int 22]) rfl rfl rfl rfl ?_
    refine ax_cmp_eq rfl (fun c8 => False.elim (by revert c8; decide)) (fun c8 => ?_)
    refine ax_s (pc' := 25) (st' := [.ref 4]) rfl rfl rfl rfl ?_
    refine ax_s (pc' := 26) (st' := [.int 3, .ref 4]) rfl rfl rfl rfl ?_
    refine ax_ald (j := 3) (v := 22) rfl (hh_s4 _ _ _) rfl rfl (by decide) (by decide) rfl ?_
    refine ax_r rfl rfl rfl ?_
    show am_ex (d + 28) 137 26 [some (.ref 283), some (.int (nI j)), some (.int 1), some (.int 0)] [.int 22, .ref 283] (am_hh X (am_u S 283 2 0) L) _
    refine ax_s (pc' := 27) (st' := [.int (nI j), .int 22, .ref 283]) rfl rfl rfl rfl ?_
    refine ax_s (pc' := 28) (st' := [.int 0, .int (nI j), .int 22, .ref 283]) rfl rfl rfl rfl ?_
    refine ax_call (vs := [.ref 283, .int 22, .int (nI j), .int 0]) (rr := []) rfl rfl rfl ?_
    refine ax_in (ls := [some (.ref 283), some (.int 22), some (.int (nI j)), some (.int 0), none]) rfl ?_
    refine ax_s (pc' := 1) (st' := [.int 0]) rfl rfl rfl rfl ?_
    refine ax_s (pc' := 3) (st' := [.int 16, .int 0]) rfl rfl rfl rfl ?_
    refine ax_cmp_le rfl (fun c9 => ?_) (fun c9 => False.elim (by revert c9; decide))
    refine ax_s (pc' := 10) (st' := [.ref 283]) rfl rfl rfl rfl ?_
    refine ax_s (pc' := 11) (st' := [.int 22, .ref 283]) rfl rfl rfl rfl ?_
    refine ax_call (vs := [.ref 283, .int 22]) (rr := []) rfl rfl rfl ?_
    refine ax_in (ls := [some (.ref 283), some (.int 22)]) rfl ?_
    refine ax_s (pc' := 1) (st' := [.ref 283]) rfl rfl rfl rfl ?_
    refine ax_get rfl (hh_283 _ _ _) rfl rfl rfl ?_
    show am_ex (d + 26) 140 4 [some (.ref 283), some (.int 22)] [.int 0] (am_hh X (am_u S 283 2 0) L) _
    refine ax_if_lt rfl (fun c10 => False.elim (by revert c10; decide)) (fun c10 => ?_)
    refine ax_s (pc' := 8) (st' := [.ref 283]) rfl rfl rfl rfl ?_
    refine ax_get rfl (hh_283 _ _ _) rfl rfl rfl ?_
    show am_ex (d + 26) 140 11 [some (.ref 283), some (.int 22)] [.int 0] (am_hh X (am_u S 283 2 0) L) _
    refine ax_s (pc' := 13) (st' := [.int 16, .int 0]) rfl rfl rfl rfl ?_
    refine ax_cmp_ge rfl (fun c11 => False.elim (by revert c11; decide)) (fun c11 => ?_)
    refine ax_s (pc' := 17) (st' := [.ref 283]) rfl rfl rfl rfl ?_
    refine ax_get rfl (hh_283 _ _ _) rfl rfl rfl ?_
    show am_ex (d + 26) 140 20 [some (.ref 283), some (.int 22)] [.ref 284] (am_hh X (am_u S 283 2 0) L) _
    refine ax_s (pc' := 21) (st' := [.ref 283, .ref 284]) rfl rfl rfl rfl ?_
    refine ax_get rfl (hh_283 _ _ _) rfl rfl rfl ?_
    show am_ex (d + 26) 140 24 [some (.ref 283), some (.int 22)] [.int 0, .ref 284] (am_hh X (am_u S 283 2 0) L) _
    refine ax_s (pc' := 25) (st' := [.int 22, .int 0, .ref 284]) rfl rfl rfl rfl ?_
    refine ax_ast (j := 0) rfl (hh_284 _ _ _) rfl rfl (by decide) (by decide) (am_hh_set _ _ _ 284 0 _ rfl) ?_
    refine ax_s (pc' := 27) (st' := [.ref 283]) rfl rfl rfl rfl ?_
    refine ax_s (pc' := 28) (st' := [.ref 283, .ref 283]) rfl rfl rfl rfl ?_
    refine ax_get rfl (hh_283 _ _ _) rfl rfl rfl ?_
    show am_ex (d + 26) 140 31 [some (.ref 283), some (.int 22)] [.int 0, .ref 283] (am_hh X (am_u (am_u S 283 2 0) 284 0 22) L) _
    refine ax_s (pc' := 32) (st' := [.int 1, .int 0, .ref 283]) rfl rfl rfl rfl ?_
    refine ax_s (pc' := 33) (st' := [.int 1, .ref 283]) rfl rfl rfl rfl ?_
    refine ax_put rfl (hh_283 _ _ _) rfl rfl (show 2 + 1 ≤ _ from Nat.le_of_ble_eq_true rfl) rfl (am_hh_set _ _ _ 283 2 _ rfl) ?_
    refine ax_r rfl rfl rfl ?_
    show am_ex (d + 27) 139 14 [some (.ref 283), some (.int 22), some (.int (nI j)), some (.int 0), none] [] (am_hh X (am_u (am_u (am_u S 283 2 0) 284 0 22) 283 2 1) L) _
    refine ax_s (pc' := 15) (st' := [.int 0]) rfl rfl rfl rfl ?_
    refine ax_s (pc' := 16) (st' := [.int 1, .int 0]) rfl rfl rfl rfl ?_
    refine ax_s (pc' := 17) (st' := [.int 1]) rfl rfl rfl rfl ?_
    refine ax_s (pc' := 19) (ls' := [some (.ref 283), some (.int 22), some (.int (nI j)), some (.int 0), some (.int 1)]) (st' := []) rfl rfl rfl rfl ?_
    refine ax_s (pc' := 20) (st' := [.int 22]) rfl rfl rfl rfl ?_
    refine ax_s (pc' := 184) (ls' := [some (.ref 283), some (.int 22), some (.int (nI j)), some (.int 0), some (.int 1)]) (st' := []) (h1 := (am_hh X (am_u (am_u (am_u S 283 2 0) 284 0 22) 283 2 1) L)) rfl rfl rfl rfl ?_
    refine ax_s (pc' := 185) (st' := [.ref 283]) rfl rfl rfl rfl ?_
    refine ax_s (pc' := 187) (st' := [.int 21, .ref 283]) rfl rfl rfl rfl ?_
    refine ax_s (pc' := 188) (st' := [.int (nI j), .int 21, .ref 283]) rfl rfl rfl rfl ?_
    refine ax_s (pc' := 190) (st' := [.int 1, .int (nI j), .int 21, .ref 283]) rfl rfl rfl rfl ?_
    refine ax_call (vs := [.ref 283, .int 21, .int (nI j), .int 1]) (rr := []) rfl rfl rfl ?_
    refine ax_in (ls := [some (.ref 283), some (.int 21), some (.int (nI j)), some (.int 1), none]) rfl ?_
    refine ax_s (pc' := 1) (st' := [.int 1]) rfl rfl rfl rfl ?_
    refine ax_s (pc' := 3) (st' := [.int 16, .int 1]) rfl rfl rfl rfl ?_
    refine ax_cmp_le rfl (fun c12 => ?_) (fun c12 => False.elim (by revert c12; decide))
    refine ax_s (pc' := 10) (st' := [.ref 283]) rfl rfl rfl rfl ?_
    refine ax_s (pc' := 11) (st' := [.int 21, .ref 283]) rfl rfl rfl rfl ?_
    refine ax_call (vs := [.ref 283, .int 21]) (rr := []) rfl rfl rfl ?_
    refine ax_in (ls := [some (.ref 283), some (.int 21)]) rfl ?_
    refine ax_s (pc' := 1) (st' := [.ref 283]) rfl rfl rfl rfl ?_
    refine ax_get rfl (hh_283 _ _ _) rfl rfl rfl ?_
    show am_ex (d + 25) 140 4 [some (.ref 283), some (.int 21)] [.int 1] (am_hh X (am_u (am_u (am_u S 283 2 0) 284 0 22) 283 2 1) L) _
    refine ax_if_lt rfl (fun c13 => False.elim (by revert c13; decide)) (fun c13 => ?_)
    refine ax_s (pc' := 8) (st' := [.ref 283]) rfl rfl rfl rfl ?_
    refine ax_get rfl (hh_283 _ _ _) rfl rfl rfl ?_
    show am_ex (d + 25) 140 11 [some (.ref 283), some (.int 21)] [.int 1] (am_hh X (am_u (am_u (am_u S 283 2 0) 284 0 22) 283 2 1) L) _
    refine ax_s (pc' := 13) (st' := [.int 16, .int 1]) rfl rfl rfl rfl ?_
    refine ax_cmp_ge rfl (fun c14 => False.elim (by revert c14; decide)) (fun c14 => ?_)
    refine ax_s (pc' := 17) (st' := [.ref 283]) rfl rfl rfl rfl ?_
    refine ax_get rfl (hh_283 _ _ _) rfl rfl rfl ?_
    show am_ex (d + 25) 140 20 [some (.ref 283), some (.int 21)] [.ref 284] (am_hh X (am_u (am_u (am_u S 283 2 0) 284 0 22) 283 2 1) L) _
    refine ax_s (pc' := 21) (st' := [.ref 283, .ref 284]) rfl rfl rfl rfl ?_
    refine ax_get rfl (hh_283 _ _ _) rfl rfl rfl ?_
    show am_ex (d + 25) 140 24 [some (.ref 283), some (.int 21)] [.int 1, .ref 284] (am_hh X (am_u (am_u (am_u S 283 2 0) 284 0 22) 283 2 1) L) _
    refine ax_s (pc' := 25) (st' := [.int 21, .int 1, .ref 284]) rfl rfl rfl rfl ?_
    refine ax_ast (j := 1) rfl (hh_284 _ _ _) rfl rfl (by decide) (by decide) (am_hh_set _ _ _ 284 1 _ rfl) ?_
    refine ax_s (pc' := 27) (st' := [.ref 283]) rfl rfl rfl rfl ?_
    refine ax_s (pc' := 28) (st' := [.ref 283, .ref 283]) rfl rfl rfl rfl ?_
    refine ax_get rfl (hh_283 _ _ _) rfl rfl rfl ?_
    show am_ex (d + 25) 140 31 [some (.ref 283), some (.int 21)] [.int 1, .ref 283] (am_hh X (am_u (am_u (am_u (am_u S 283 2 0) 284 0 22) 283 2 1) 284 1 21) L) _
    refine ax_s (pc' := 32) (st' := [.int 1, .int 1, .ref 283]) rfl rfl rfl rfl ?_
    refine ax_s (pc' := 33) (st' := [.int 2, .ref 283]) rfl rfl rfl rfl ?_
    refine ax_put rfl (hh_283 _ _ _) rfl rfl (show 2 + 1 ≤ _ from Nat.le_of_ble_eq_true rfl) rfl (am_hh_set _ _ _ 283 2 _ rfl) ?_
    refine ax_r rfl rfl rfl ?_
    show am_ex (d + 26) 139 14 [some (.ref 283), some (.int 21), some (.int (nI j)), some (.int 1), none] [] (am_hh X (am_u (am_u (am_u (am_u (am_u S 283 2 0) 284 0 22) 283 2 1) 284 1 21) 283 2 2) L) _
    refine ax_s (pc' := 15) (st' := [.int 1]) rfl rfl rfl rfl ?_
    refine ax_s (pc' := 16) (st' := [.int 1, .int 1]) rfl rfl rfl rfl ?_
    refine ax_s (pc' := 17) (st' := [.int 2]) rfl rfl rfl rfl ?_
    refine ax_s (pc' := 19) (ls' := [some (.ref 283), some (.int 21), some (.int (nI j)), some (.int 1), some (.int 2)]) (st' := []) rfl rfl rfl rfl ?_
    refine ax_s (pc' := 20) (st' := [.int 21]) rfl rfl rfl rfl ?_
    refine ax_s (pc' := 164) (ls' := [some (.ref 283), some (.int 21), some (.int (nI j)), some (.int 1), some (.int 2)]) (st' := []) (h1 := (am_hh X (am_u (am_u (am_u (am_u (am_u S 283 2 0) 284 0 22) 283 2 1) 284 1 21) 283 2 2) L)) rfl rfl rfl rfl ?_
    refine ax_s (pc' := 165) (st' := [.ref 283]) rfl rfl rfl rfl ?_
    refine ax_s (pc' := 167) (st' := [.int 20, .ref 283]) rfl rfl rfl rfl ?_
    refine ax_s (pc' := 168) (st' := [.int (nI j), .int 20, .ref 283]) rfl rfl rfl rfl ?_
    refine ax_s (pc' := 170) (st' := [.int 2, .int (nI j), .int 20, .ref 283]) rfl rfl rfl rfl ?_
    refine ax_call (vs := [.ref 283, .int 20, .int (nI j), .int 2]) (rr := []) rfl rfl rfl ?_
    refine ax_in (ls := [some (.ref 283), some (.int 20), some (.int (nI j)), some (.int 2), none]) rfl ?_
    refine ax_s (pc' := 1) (st' := [.int 2]) rfl rfl rfl rfl ?_
    refine ax_s (pc' := 3) (st' := [.int 16, .int 2]) rfl rfl rfl rfl ?_
    refine ax_cmp_le rfl (fun c15 => ?_) (fun c15 => False.elim (by revert c15; decide))
    refine ax_s (pc' := 10) (st' := [.ref 283]) rfl rfl rfl rfl ?_
    refine ax_s (pc' := 11) (st' := [.int 20, .ref 283]) rfl rfl rfl rfl ?_
    refine ax_call (vs := [.ref 283, .int 20]) (rr := []) rfl rfl rfl ?_
    refine ax_in (ls := [some (.ref 283), some (.int 20)]) rfl ?_
    refine ax_s (pc' := 1) (st' := [.ref 283]) rfl rfl rfl rfl ?_
    refine ax_get rfl (hh_283 _ _ _) rfl rfl rfl ?_
    show am_ex (d + 24) 140 4 [some (.ref 283), some (.int 20)] [.int 2] (am_hh X (am_u (am_u (am_u (am_u (am_u S 283 2 0) 284 0 22) 283 2 1) 284 1 21) 283 2 2) L) _
    refine ax_if_lt rfl (fun c16 => False.elim (by revert c16; decide)) (fun c16 => ?_)
    refine ax_s (pc' := 8) (st' := [.ref 283]) rfl rfl rfl rfl ?_
    refine ax_get rfl (hh_283 _ _ _) rfl rfl rfl ?_
    show am_ex (d + 24) 140 11 [some (.ref 283), some (.int 20)] [.int 2] (am_hh X (am_u (am_u (am_u (am_u (am_u S 283 2 0) 284 0 22) 283 2 1) 284 1 21) 283 2 2) L) _
    refine ax_s (pc' := 13) (st' := [.int 16, .int 2]) rfl rfl rfl rfl ?_
    refine ax_cmp_ge rfl (fun c17 => False.elim (by revert c17; decide)) (fun c17 => ?_)
    refine ax_s (pc' := 17) (st' := [.ref 283]) rfl rfl rfl rfl ?_
    refine ax_get rfl (hh_283 _ _ _) rfl rfl rfl ?_
    show am_ex (d + 24) 140 20 [some (.ref 283), some (.int 20)] [.ref 284] (am_hh X (am_u (am_u (am_u (am_u (am_u S 283 2 0) 284 0 22) 283 2 1) 284 1 21) 283 2 2) L) _
    refine ax_s (pc' := 21) (st' := [.ref 283, .ref 284]) rfl rfl rfl rfl ?_
    refine ax_get rfl (hh_283 _ _ _) rfl rfl rfl ?_
    show am_ex (d + 24) 140 24 [some (.ref 283), some (.int 20)] [.int 2, .ref 284] (am_hh X (am_u (am_u (am_u (am_u (am_u S 283 2 0) 284 0 22) 283 2 1) 284 1 21) 283 2 2) L) _
    refine ax_s (pc' := 25) (st' := [.int 20, .int 2, .ref 284]) rfl rfl rfl rfl ?_
    refine ax_ast (j := 2) rfl (hh_284 _ _ _) rfl rfl (by decide) (by decide) (am_hh_set _ _ _ 284 2 _ rfl) ?_
    refine ax_s (pc' := 27) (st' := [.ref 283]) rfl rfl rfl rfl ?_
    refine ax_s (pc' := 28) (st' := [.ref 283, .ref 283]) rfl rfl rfl rfl ?_
    refine ax_get rfl (hh_283 _ _ _) rfl rfl rfl ?_
    show am_ex (d + 24) 140 31 [some (.ref 283), some (.int 20)] [.int 2, .ref 283] (am_hh X (am_u (am_u (am_u (am_u (am_u (am_u S 283 2 0) 284 0 22) 283 2 1) 284 1 21) 283 2 2) 284 2 20) L) _
    refine ax_s (pc' := 32) (st' := [.int 1, .int 2, .ref 283]) rfl rfl rfl rfl ?_
    refine ax_s (pc' := 33) (st' := [.int 3, .ref 283]) rfl rfl rfl rfl ?_
    refine ax_put rfl (hh_283 _ _ _) rfl rfl (show 2 + 1 ≤ _ from Nat.le_of_ble_eq_true rfl) rfl (am_hh_set _ _ _ 283 2 _ rfl) ?_
    refine ax_r rfl rfl rfl ?_
    show am_ex (d + 25) 139 14 [some (.ref 283), some (.int 20), some (.int (nI j)), some (.int 2), none] [] (am_hh X (am_u (am_u (am_u (am_u (am_u (am_u (am_u S 283 2 0) 284 0 22) 283 2 1) 284 1 21) 283 2 2) 284 2 20) 283 2 3) L) _
    refine ax_s (pc' := 15) (st' := [.int 2]) rfl rfl rfl rfl ?_
    refine ax_s (pc' := 16) (st' := [.int 1, .int 2]) rfl rfl rfl rfl ?_
    refine ax_s (pc' := 17) (st' := [.int 3]) rfl rfl rfl rfl ?_
    refine ax_s (pc' := 19) (ls' := [some (.ref 283), some (.int 20), some (.int (nI j)), some (.int 2), some (.int 3)]) (st' := []) rfl rfl rfl rfl ?_
    refine ax_s (pc' := 20) (st' := [.int 20]) rfl rfl rfl rfl ?_
    refine ax_s (pc' := 162) (ls' := [some (.ref 283), some (.int 20), some (.int (nI j)), some (.int 2), some (.int 3)]) (st' := []) (h1 := (am_hh X (am_u (am_u (am_u (am_u (am_u (am_u (am_u S 283 2 0) 284 0 22) 283 2 1) 284 1 21) 283 2 2) 284 2 20) 283 2 3) L)) rfl rfl rfl rfl ?_
    refine ax_s (pc' := 163) (st' := [.int (nI j)]) rfl rfl rfl rfl ?_
    refine ax_r rfl rfl rfl ?_
    show am_ex (d + 26) 139 173 [some (.ref 283), some (.int 21), some (.int (nI j)), some (.int 1), some (.int 2)] [.int (nI j)] (am_hh X (am_u (am_u (am_u (am_u (am_u (am_u (am_u S 283 2 0) 284 0 22) 283 2 1) 284 1 21) 283 2 2) 284 2 20) 283 2 3) L) _
    refine ax_s (pc' := 174) (st' := [.ref 283, .int (nI j)]) rfl rfl rfl rfl ?_
    refine ax_get rfl (hh_283 _ _ _) rfl rfl rfl ?_
    show am_ex (d + 26) 139 177 [some (.ref 283), some (.int 21), some (.int (nI j)), some (.int 1), some (.int 2)] [.ref 20, .int (nI j)] (am_hh X (am_u (am_u (am_u (am_u (am_u (am_u (am_u S 283 2 0) 284 0 22) 283 2 1) 284 1 21) 283 2 2) 284 2 20) 283 2 3) L) _
    refine ax_get rfl (hh_20 _ _ _) rfl rfl rfl ?_
    show am_ex (d + 26) 139 180 [some (.ref 283), some (.int 21), some (.int (nI j)), some (.int 1), some (.int 2)] [.ref 27, .int (nI j)] (am_hh X (am_u (am_u (am_u (am_u (am_u (am_u (am_u S 283 2 0) 284 0 22) 283 2 1) 284 1 21) 283 2 2) 284 2 20) 283 2 3) L) _
    refine ax_s (pc' := 181) (st' := [.int (nI j), .ref 27, .int (nI j)]) rfl rfl rfl rfl ?_
    refine ax_ald (j := j) (v := (S 27 j)) rfl (hh_27 _ _ _) rfl rfl (x1 c1) (by decide) rfl ?_
    refine ax_s (pc' := 183) (st' := [.int ((nI j) + (S 27 j))]) rfl rfl rfl rfl ?_
    refine ax_r rfl rfl rfl ?_
    show am_ex (d + 27) 139 193 [some (.ref 283), some (.int 22), some (.int (nI j)), some (.int 0), some (.int 1)] [.int ((nI j) + (S 27 j))] (am_hh X (am_u (am_u (am_u (am_u (am_u (am_u (am_u S 283 2 0) 284 0 22) 283 2 1) 284 1 21) 283 2 2) 284 2 20) 283 2 3) L) _
    refine ax_s (pc' := 196) (st' := [.int 1000, .int ((nI j) + (S 27 j))]) rfl rfl rfl rfl ?_
    refine ax_s (pc' := 197) (st' := [.int (((nI j) + (S 27 j)) - 1000)]) rfl rfl rfl rfl ?_
    refine ax_r rfl rfl rfl ?_
    show am_ex (d + 28) 137 31 [some (.ref 283), some (.int (nI j)), some (.int 1), some (.int 0)] [.int (((nI j) + (S 27 j)) - 1000)] (am_hh X (am_u (am_u (am_u (am_u (am_u (am_u (am_u S 283 2 0) 284 0 22) 283 2 1) 284 1 21) 283 2 2) 284 2 20) 283 2 3) L) _
    refine ax_r rfl rfl rfl ?_
    show am_ex (d + 29) 238 12 [some (.ref 283), some (.int (nI j)), some (.int 1)] [.int (((nI j) + (S 27 j)) - 1000)] (am_hh X (am_u (am_u (am_u (am_u (am_u (am_u (am_u S 283 2 0) 284 0 22) 283 2 1) 284 1 21) 283 2 2) 284 2 20) 283 2 3) L) _
    refine ax_r rfl rfl rfl ?_
    show am_ex (d + 30) 136 32 [some (.ref 5), some (.int (nI j)), some (.int 1)] [.int (((nI j) + (S 27 j)) - 1000)] (am_hh X (am_u (am_u (am_u (am_u (am_u (am_u (am_u S 283 2 0) 284 0 22) 283 2 1) 284 1 21) 283 2 2) 284 2 20) 283 2 3) L) _
    refine ax_r rfl rfl rfl ?_
    exact k2 c1
theorem wm_ask_3_1 {d : Nat} {X : Nat × (Nat → Int32)} {S : Nat → Nat → Int32} {L : Nat → Int64} {j : Nat} {Q : Option Value → am_H → Prop} (hk : S 290 j = 3) (hj : j < 6)  (x1 : ¬ (nI j) < 0 ∧ ¬ (S 285 7) - 1 < (nI j) → j < 6) (x2 : ¬ (nI j) < 0 ∧ ¬ (S 285 7) - 1 < (nI j) → (27 + j) < 39) (k1 : ¬ (¬ (nI j) < 0 ∧ ¬ (S 285 7) - 1 < (nI j)) → Q (some (.int (-1000001))) (am_hh X S L)) (k2 : ¬ (nI j) < 0 ∧ ¬ (S 285 7) - 1 < (nI j) → Q (some (.int (((nI j) + (S 293 (27 + j))) - 1000))) (am_hh X (am_u (am_u (am_u (am_u (am_u (am_u (am_u S 285 20 0) 299 0 22) 285 20 1) 299 1 21) 285 20 2) 299 2 20) 285 20 3) L)) : am_mt (d + 10) 224 [.ref 285, .int (nI j), .int 1] (am_hh X S L) Q := by
  refine ax_in (ls := [some (.ref 285), some (.int (nI j)), some (.int 1)]) rfl ?_
  refine ax_s (pc' := 1) (st' := [.ref 285]) rfl rfl rfl rfl ?_
  refine ax_s (pc' := 2) (st' := [.int (nI j), .ref 285]) rfl rfl rfl rfl ?_
  refine ax_call (vs := [.ref 285, .int (nI j)]) (rr := []) rfl rfl rfl ?_
  refine mt_isParty  ?_
  show am_ex (d + 10) 224 5 [some (.ref 285), some (.int (nI j)), some (.int 1)] [.int (bI (decide (¬ (nI j) < 0 ∧ ¬ (S 285 7) - 1 < (nI j))))] (am_hh X S L) _
  refine ax_pF rfl (fun c1 => ?_) (fun c1 => ?_)
  · refine ax_s (pc' := 19) (st' := [.int (-1000001)]) rfl rfl rfl rfl ?_
    refine ax_r rfl rfl rfl ?_
    exact k1 c1
  · refine ax_s (pc' := 9) (st' := [.int 1]) rfl rfl rfl rfl ?_
    refine ax_s (pc' := 10) (st' := [.int 0, .int 1]) rfl rfl rfl rfl ?_
    refine ax_s (pc' := 11) (st' := [.int 1, .int 0, .int 1]) rfl rfl rfl rfl ?_
    refine ax_call (vs := [.int 1, .int 0, .int 1]) (rr := []) rfl rfl rfl ?_
    refine mt_in ?_
    show am_ex (d + 10) 224 14 [some (.ref 285), some (.int (nI j)), some (.int 1)] [.int 1] (am_hh X S L) _
    refine ax_if_ne rfl (fun c2 => ?_) (fun c2 => False.elim (by revert c2; decide))
    refine ax_s (pc' := 21) (st' := [.ref 285]) rfl rfl rfl rfl ?_
    refine ax_s (pc' := 22) (st' := [.int 0, .ref 285]) rfl rfl rfl rfl ?_
    refine ax_put rfl (hh_285 _ _ _) rfl rfl (show 20 + 1 ≤ _ from Nat.le_of_ble_eq_true rfl) rfl (am_hh_set _ _ _ 285 20 _ rfl) ?_
    refine ax_s (pc' := 26) (st' := [.ref 285]) rfl rfl rfl rfl ?_
    refine ax_get rfl (hh_285 _ _ _) rfl rfl rfl ?_
    show am_ex (d + 10) 224 29 [some (.ref 285), some (.int (nI j)), some (.int 1)] [.ref 290] (am_hh X (am_u S 285 20 0) L) _
    refine ax_s (pc' := 30) (st' := [.int (nI j), .ref 290]) rfl rfl rfl rfl ?_
    refine ax_ald (j := j) (v := 3) rfl (hh_290 _ _ _) rfl rfl (x1 c1) (by decide) hk ?_
    refine ax_s (pc' := 32) (st' := [.int 4, .int 3]) rfl rfl rfl rfl ?_
    refine ax_cmp_ge rfl (fun c3 => False.elim (by revert c3; decide)) (fun c3 => ?_)
    refine ax_s (pc' := 36) (st' := [.int 1]) rfl rfl rfl rfl ?_
    refine ax_if_ne rfl (fun c4 => ?_) (fun c4 => False.elim (by revert c4; decide))
    refine ax_s (pc' := 48) (st' := [.ref 285]) rfl rfl rfl rfl ?_
    refine ax_s (pc' := 49) (st' := [.int (nI j), .ref 285]) rfl rfl rfl rfl ?_
    refine ax_call (vs := [.ref 285, .int (nI j)]) (rr := []) rfl rfl rfl ?_
    refine ax_in (ls := [some (.ref 285), some (.int (nI j))]) rfl ?_
    refine ax_s (pc' := 1) (st' := [.ref 285]) rfl rfl rfl rfl ?_
    refine ax_get rfl (hh_285 _ _ _) rfl rfl rfl ?_
    show am_ex (d + 9) 228 4 [some (.ref 285), some (.int (nI j))] [.ref 290] (am_hh X (am_u S 285 20 0) L) _
    refine ax_s (pc' := 5) (st' := [.int (nI j), .ref 290]) rfl rfl rfl rfl ?_
    refine ax_ald (j := j) (v := 3) rfl (hh_290 _ _ _) rfl rfl (x1 c1) (by decide) hk ?_
    refine ax_s (pc' := 7) (st' := [.int 3, .int 3]) rfl rfl rfl rfl ?_
    refine ax_cmp_ne rfl (fun c5 => False.elim (by revert c5; decide)) (fun c5 => ?_)
    refine ax_s (pc' := 11) (st' := [.ref 285]) rfl rfl rfl rfl ?_
    refine ax_s (pc' := 13) (st' := [.int 22, .ref 285]) rfl rfl rfl rfl ?_
    refine ax_call (vs := [.ref 285, .int 22]) (rr := []) rfl rfl rfl ?_
    refine ax_in (ls := [some (.ref 285), some (.int 22)]) rfl ?_
    refine ax_s (pc' := 1) (st' := [.ref 285]) rfl rfl rfl rfl ?_
    refine ax_get rfl (hh_285 _ _ _) rfl rfl rfl ?_
    show am_ex (d + 8) 226 4 [some (.ref 285), some (.int 22)] [.int 0] (am_hh X (am_u S 285 20 0) L) _
    refine ax_s (pc' := 6) (st' := [.int 16, .int 0]) rfl rfl rfl rfl ?_
    refine ax_cmp_ge rfl (fun c6 => False.elim (by revert c6; decide)) (fun c6 => ?_)
    refine ax_s (pc' := 10) (st' := [.ref 285]) rfl rfl rfl rfl ?_
    refine ax_get rfl (hh_285 _ _ _) rfl rfl rfl ?_
    show am_ex (d + 8) 226 13 [some (.ref 285), some (.int 22)] [.ref 299] (am_hh X (am_u S 285 20 0) L) _
    refine ax_s (pc' := 14) (st' := [.ref 285, .ref 299]) rfl rfl rfl rfl ?_
    refine ax_get rfl (hh_285 _ _ _) rfl rfl rfl ?_
    show am_ex (d + 8) 226 17 [some (.ref 285), some (.int 22)] [.int 0, .ref 299] (am_hh X (am_u S 285 20 0) L) _
    refine ax_s (pc' := 18) (st' := [.int 22, .int 0, .ref 299]) rfl rfl rfl rfl ?_
    refine ax_ast (j := 0) rfl (hh_299 _ _ _) rfl rfl (by decide) (by decide) (am_hh_set _ _ _ 299 0 _ rfl) ?_
    refine ax_s (pc' := 20) (st' := [.ref 285]) rfl rfl rfl rfl ?_
    refine ax_s (pc' := 21) (st' := [.ref 285, .ref 285]) rfl rfl rfl rfl ?_
    refine ax_get rfl (hh_285 _ _ _) rfl rfl rfl ?_
    show am_ex (d + 8) 226 24 [some (.ref 285), some (.int 22)] [.int 0, .ref 285] (am_hh X (am_u (am_u S 285 20 0) 299 0 22) L) _
    refine ax_s (pc' := 25) (st' := [.int 1, .int 0, .ref 285]) rfl rfl rfl rfl ?_
    refine ax_s (pc' := 26) (st' := [.int 1, .ref 285]) rfl rfl rfl rfl ?_
    refine ax_put rfl (hh_285 _ _ _) rfl rfl (show 20 + 1 ≤ _ from Nat.le_of_ble_eq_true rfl) rfl (am_hh_set _ _ _ 285 20 _ rfl) ?_
    refine ax_r rfl rfl rfl ?_
    show am_ex (d + 9) 228 16 [some (.ref 285), some (.int (nI j))] [] (am_hh X (am_u (am_u (am_u S 285 20 0) 299 0 22) 285 20 1) L) _
    refine ax_s (pc' := 17) (st' := [.ref 285]) rfl rfl rfl rfl ?_
    refine ax_s (pc' := 18) (st' := [.int (nI j), .ref 285]) rfl rfl rfl rfl ?_
    refine ax_call (vs := [.ref 285, .int (nI j)]) (rr := []) rfl rfl rfl ?_
    refine ax_in (ls := [some (.ref 285), some (.int (nI j))]) rfl ?_
    refine ax_s (pc' := 1) (st' := [.ref 285]) rfl rfl rfl rfl ?_
    refine ax_s (pc' := 3) (st' := [.int 21, .ref 285]) rfl rfl rfl rfl ?_
    refine ax_call (vs := [.ref 285, .int 21]) (rr := []) rfl rfl rfl ?_
    refine ax_in (ls := [some (.ref 285), some (.int 21)]) rfl ?_
    refine ax_s (pc' := 1) (st' := [.ref 285]) rfl rfl rfl rfl ?_
    refine ax_get rfl (hh_285 _ _ _) rfl rfl rfl ?_
    show am_ex (d + 7) 226 4 [some (.ref 285), some (.int 21)] [.int 1] (am_hh X (am_u (am_u (am_u S 285 20 0) 299 0 22) 285 20 1) L) _
    refine ax_s (pc' := 6) (st' := [.int 16, .int 1]) rfl rfl rfl rfl ?_
    refine ax_cmp_ge rfl (fun c7 => False.elim (by revert c7; decide)) (fun c7 => ?_)
    refine ax_s (pc' := 10) (st' := [.ref 285]) rfl rfl rfl rfl ?_
    refine ax_get rfl (hh_285 _ _ _) rfl rfl rfl ?_
    show am_ex (d + 7) 226 13 [some (.ref 285), some (.int 21)] [.ref 299] (am_hh X (am_u (am_u (am_u S 285 20 0) 299 0 22) 285 20 1) L) _
    refine ax_s (pc' := 14) (st' := [.ref 285, .ref 299]) rfl rfl rfl rfl ?_
    refine ax_get rfl (hh_285 _ _ _) rfl rfl rfl ?_
    show am_ex (d + 7) 226 17 [some (.ref 285), some (.int 21)] [.int 1, .ref 299] (am_hh X (am_u (am_u (am_u S 285 20 0) 299 0 22) 285 20 1) L) _
    refine ax_s (pc' := 18) (st' := [.int 21, .int 1, .ref 299]) rfl rfl rfl rfl ?_
    refine ax_ast (j := 1) rfl (hh_299 _ _ _) rfl rfl (by decide) (by decide) (am_hh_set _ _ _ 299 1 _ rfl) ?_
    refine ax_s (pc' := 20) (st' := [.ref 285]) rfl rfl rfl rfl ?_
    refine ax_s (pc' := 21) (st' := [.ref 285, .ref 285]) rfl rfl rfl rfl ?_
    refine ax_get rfl (hh_285 _ _ _) rfl rfl rfl ?_
    show am_ex (d + 7) 226 24 [some (.ref 285), some (.int 21)] [.int 1, .ref 285] (am_hh X (am_u (am_u (am_u (am_u S 285 20 0) 299 0 22) 285 20 1) 299 1 21) L) _
    refine ax_s (pc' := 25) (st' := [.int 1, .int 1, .ref 285]) rfl rfl rfl rfl ?_
    refine ax_s (pc' := 26) (st' := [.int 2, .ref 285]) rfl rfl rfl rfl ?_
    refine ax_put rfl (hh_285 _ _ _) rfl rfl (show 20 + 1 ≤ _ from Nat.le_of_ble_eq_true rfl) rfl (am_hh_set _ _ _ 285 20 _ rfl) ?_
    refine ax_r rfl rfl rfl ?_
    show am_ex (d + 8) 229 6 [some (.ref 285), some (.int (nI j))] [] (am_hh X (am_u (am_u (am_u (am_u (am_u S 285 20 0) 299 0 22) 285 20 1) 299 1 21) 285 20 2) L) _
    refine ax_s (pc' := 7) (st' := [.ref 285]) rfl rfl rfl rfl ?_
    refine ax_s (pc' := 8) (st' := [.int (nI j), .ref 285]) rfl rfl rfl rfl ?_
    refine ax_call (vs := [.ref 285, .int (nI j)]) (rr := []) rfl rfl rfl ?_
    refine ax_in (ls := [some (.ref 285), some (.int (nI j))]) rfl ?_
    refine ax_s (pc' := 1) (st' := [.ref 285]) rfl rfl rfl rfl ?_
    refine ax_s (pc' := 3) (st' := [.int 20, .ref 285]) rfl rfl rfl rfl ?_
    refine ax_call (vs := [.ref 285, .int 20]) (rr := []) rfl rfl rfl ?_
    refine ax_in (ls := [some (.ref 285), some (.int 20)]) rfl ?_
    refine ax_s (pc' := 1) (st' := [.ref 285]) rfl rfl rfl rfl ?_
    refine ax_get rfl (hh_285 _ _ _) rfl rfl rfl ?_
    show am_ex (d + 6) 226 4 [some (.ref 285), some (.int 20)] [.int 2] (am_hh X (am_u (am_u (am_u (am_u (am_u S 285 20 0) 299 0 22) 285 20 1) 299 1 21) 285 20 2) L) _
    refine ax_s (pc' := 6) (st' := [.int 16, .int 2]) rfl rfl rfl rfl ?_
    refine ax_cmp_ge rfl (fun c8 => False.elim (by revert c8; decide)) (fun c8 => ?_)
    refine ax_s (pc' := 10) (st' := [.ref 285]) rfl rfl rfl rfl ?_
    refine ax_get rfl (hh_285 _ _ _) rfl rfl rfl ?_
    show am_ex (d + 6) 226 13 [some (.ref 285), some (.int 20)] [.ref 299] (am_hh X (am_u (am_u (am_u (am_u (am_u S 285 20 0) 299 0 22) 285 20 1) 299 1 21) 285 20 2) L) _
    refine ax_s (pc' := 14) (st' := [.ref 285, .ref 299]) rfl rfl rfl rfl ?_
    refine ax_get rfl (hh_285 _ _ _) rfl rfl rfl ?_
    show am_ex (d + 6) 226 17 [some (.ref 285), some (.int 20)] [.int 2, .ref 299] (am_hh X (am_u (am_u (am_u (am_u (am_u S 285 20 0) 299 0 22) 285 20 1) 299 1 21) 285 20 2) L) _
    refine ax_s (pc' := 18) (st' := [.int 20, .int 2, .ref 299]) rfl rfl rfl rfl ?_
    refine ax_ast (j := 2) rfl (hh_299 _ _ _) rfl rfl (by decide) (by decide) (am_hh_set _ _ _ 299 2 _ rfl) ?_
    refine ax_s (pc' := 20) (st' := [.ref 285]) rfl rfl rfl rfl ?_
    refine ax_s (pc' := 21) (st' := [.ref 285, .ref 285]) rfl rfl rfl rfl ?_
    refine ax_get rfl (hh_285 _ _ _) rfl rfl rfl ?_
    show am_ex (d + 6) 226 24 [some (.ref 285), some (.int 20)] [.int 2, .ref 285] (am_hh X (am_u (am_u (am_u (am_u (am_u (am_u S 285 20 0) 299 0 22) 285 20 1) 299 1 21) 285 20 2) 299 2 20) L) _
    refine ax_s (pc' := 25) (st' := [.int 1, .int 2, .ref 285]) rfl rfl rfl rfl ?_
    refine ax_s (pc' := 26) (st' := [.int 3, .ref 285]) rfl rfl rfl rfl ?_
    refine ax_put rfl (hh_285 _ _ _) rfl rfl (show 20 + 1 ≤ _ from Nat.le_of_ble_eq_true rfl) rfl (am_hh_set _ _ _ 285 20 _ rfl) ?_
    refine ax_r rfl rfl rfl ?_
    show am_ex (d + 7) 230 6 [some (.ref 285), some (.int (nI j))] [] (am_hh X (am_u (am_u (am_u (am_u (am_u (am_u (am_u S 285 20 0) 299 0 22) 285 20 1) 299 1 21) 285 20 2) 299 2 20) 285 20 3) L) _
    refine ax_s (pc' := 7) (st' := [.int (nI j)]) rfl rfl rfl rfl ?_
    refine ax_r rfl rfl rfl ?_
    show am_ex (d + 8) 229 11 [some (.ref 285), some (.int (nI j))] [.int (nI j)] (am_hh X (am_u (am_u (am_u (am_u (am_u (am_u (am_u S 285 20 0) 299 0 22) 285 20 1) 299 1 21) 285 20 2) 299 2 20) 285 20 3) L) _
    refine ax_s (pc' := 12) (st' := [.ref 285, .int (nI j)]) rfl rfl rfl rfl ?_
    refine ax_get rfl (hh_285 _ _ _) rfl rfl rfl ?_
    show am_ex (d + 8) 229 15 [some (.ref 285), some (.int (nI j))] [.ref 293, .int (nI j)] (am_hh X (am_u (am_u (am_u (am_u (am_u (am_u (am_u S 285 20 0) 299 0 22) 285 20 1) 299 1 21) 285 20 2) 299 2 20) 285 20 3) L) _
    refine ax_s (pc' := 17) (st' := [.int 27, .ref 293, .int (nI j)]) rfl rfl rfl rfl ?_
    refine ax_s (pc' := 18) (st' := [.int (nI j), .int 27, .ref 293, .int (nI j)]) rfl rfl rfl rfl ?_
    refine ax_s (pc' := 19) (st' := [.int (27 + (nI j)), .ref 293, .int (nI j)]) rfl rfl rfl rfl ?_
    refine ax_ald (j := (27 + j)) (v := (S 293 (27 + j))) rfl (hh_293 _ _ _) rfl (am_na (x := 27) (y := j) rfl rfl) (x2 c1) (by decide) rfl ?_
    refine ax_s (pc' := 21) (st' := [.int ((nI j) + (S 293 (27 + j)))]) rfl rfl rfl rfl ?_
    refine ax_r rfl rfl rfl ?_
    show am_ex (d + 9) 228 21 [some (.ref 285), some (.int (nI j))] [.int ((nI j) + (S 293 (27 + j)))] (am_hh X (am_u (am_u (am_u (am_u (am_u (am_u (am_u S 285 20 0) 299 0 22) 285 20 1) 299 1 21) 285 20 2) 299 2 20) 285 20 3) L) _
    refine ax_s (pc' := 24) (st' := [.int 1000, .int ((nI j) + (S 293 (27 + j)))]) rfl rfl rfl rfl ?_
    refine ax_s (pc' := 25) (st' := [.int (((nI j) + (S 293 (27 + j))) - 1000)]) rfl rfl rfl rfl ?_
    refine ax_r rfl rfl rfl ?_
    show am_ex (d + 10) 224 52 [some (.ref 285), some (.int (nI j)), some (.int 1)] [.int (((nI j) + (S 293 (27 + j))) - 1000)] (am_hh X (am_u (am_u (am_u (am_u (am_u (am_u (am_u S 285 20 0) 299 0 22) 285 20 1) 299 1 21) 285 20 2) 299 2 20) 285 20 3) L) _
    refine ax_r rfl rfl rfl ?_
    exact k2 c1
theorem wk_ask_4_0 {d : Nat} {X : Nat × (Nat → Int32)} {S : Nat → Nat → Int32} {L : Nat → Int64} {j : Nat} {Q : Option Value → am_H → Prop} (hk : S 22 j = 4) (hj : j < 6)  (x1 : ¬ (nI j) < 0 ∧ ¬ (S 20 4) ≤ (nI j) → j < 6) (k1 : ¬ (¬ (nI j) < 0 ∧ ¬ (S 20 4) ≤ (nI j)) → Q (some (.int (-1000001))) (am_hh X S L)) (k2 : ¬ (nI j) < 0 ∧ ¬ (S 20 4) ≤ (nI j) → Q (some (.int ((S 23 j) - 100))) (am_hh X (am_u (am_u (am_u (am_u (am_u S 283 2 0) 284 0 13) 283 2 1) 284 1 10) 283 2 2) L)) : am_mt (d + 30) 136 [.ref 5, .int (nI j), .int 0] (am_hh X S L) Q := by
  refine ax_in (ls := [some (.ref 5), some (.int (nI j)), some (.int 0)]) rfl ?_
  refine ax_s (pc' := 1) (st' := [.ref 5]) rfl rfl rfl rfl ?_
  refine ax_get rfl (hh_5 _ _ _) rfl rfl rfl ?_
  show am_ex (d + 30) 136 4 [some (.ref 5), some (.int (nI j)), some (.int 0)] [.ref 20] (am_hh X S L) _
  refine ax_s (pc' := 5) (st' := [.int (nI j), .ref 20]) rfl rfl rfl rfl ?_
  refine ax_call (vs := [.ref 20, .int (nI j)]) (rr := []) rfl rfl rfl ?_
  refine kw (am_hh_sub isW20 X S L) (am_hh_sub isW20 X S L).symm (fun _ => ct_hasParty (am_isW_k isW20 X S L)) ?_
  show am_ex (d + 30) 136 8 [some (.ref 5), some (.int (nI j)), some (.int 0)] [.int (bI (decide (¬ (nI j) < 0 ∧ ¬ (S 20 4) ≤ (nI j))))] (am_hh X S L) _
  refine ax_pF rfl (fun c1 => ?_) (fun c1 => ?_)
  · refine ax_s (pc' := 22) (st' := [.int (-1000001)]) rfl rfl rfl rfl ?_
    refine ax_r rfl rfl rfl ?_
    exact k1 c1
  · refine ax_s (pc' := 12) (st' := [.int 0]) rfl rfl rfl rfl ?_
    refine ax_s (pc' := 13) (st' := [.int 0, .int 0]) rfl rfl rfl rfl ?_
    refine ax_s (pc' := 14) (st' := [.int 1, .int 0, .int 0]) rfl rfl rfl rfl ?_
    refine ax_call (vs := [.int 0, .int 0, .int 1]) (rr := []) rfl rfl rfl ?_
    refine ct_isOutside ?_
    show am_ex (d + 30) 136 17 [some (.ref 5), some (.int (nI j)), some (.int 0)] [.int 0] (am_hh X S L) _
    refine ax_if_eq rfl (fun c2 => ?_) (fun c2 => False.elim (by revert c2; decide))
    refine ax_s (pc' := 24) (st' := [.ref 5]) rfl rfl rfl rfl ?_
    refine ax_get rfl (hh_5 _ _ _) rfl rfl rfl ?_
    show am_ex (d + 30) 136 27 [some (.ref 5), some (.int (nI j)), some (.int 0)] [.ref 283] (am_hh X S L) _
    refine ax_s (pc' := 28) (st' := [.int (nI j), .ref 283]) rfl rfl rfl rfl ?_
    refine ax_s (pc' := 29) (st' := [.int 0, .int (nI j), .ref 283]) rfl rfl rfl rfl ?_
    refine ax_call (vs := [.ref 283, .int (nI j), .int 0]) (rr := []) rfl rfl rfl ?_
    refine ax_in (ls := [some (.ref 283), some (.int (nI j)), some (.int 0)]) rfl ?_
    refine ax_s (pc' := 1) (st' := [.ref 283]) rfl rfl rfl rfl ?_
    refine ax_s (pc' := 2) (st' := [.int 0, .ref 283]) rfl rfl rfl rfl ?_
    refine ax_put rfl (hh_283 _ _ _) rfl rfl (show 2 + 1 ≤ _ from Nat.le_of_ble_eq_true rfl) rfl (am_hh_set _ _ _ 283 2 _ rfl) ?_
    refine ax_s (pc' := 6) (st' := [.ref 283]) rfl rfl rfl rfl ?_
    refine ax_s (pc' := 7) (st' := [.int (nI j), .ref 283]) rfl rfl rfl rfl ?_
    refine ax_s (pc' := 8) (st' := [.int 0, .int (nI j), .ref 283]) rfl rfl rfl rfl ?_
    refine ax_s (pc' := 9) (st' := [.int 0, .int 0, .int (nI j), .ref 283]) rfl rfl rfl rfl ?_
    refine ax_call (vs := [.ref 283, .int (nI j), .int 0, .int 0]) (rr := []) rfl rfl rfl ?_
    refine ax_in (ls := [some (.ref 283), some (.int (nI j)), some (.int 0), some (.int 0)]) rfl ?_
    refine ax_s (pc' := 1) (st' := [.ref 283]) rfl rfl rfl rfl ?_
    refine ax_s (pc' := 2) (st' := [.ref 283, .ref 283]) rfl rfl rfl rfl ?_
    refine ax_get rfl (hh_283 _ _ _) rfl rfl rfl ?_
    show am_ex (d + 28) 137 5 [some (.ref 283), some (.int (nI j)), some (.int 0), some (.int 0)] [.ref 20, .ref 283] (am_hh X (am_u S 283 2 0) L) _
    refine ax_get rfl (hh_20 _ _ _) rfl rfl rfl ?_
    show am_ex (d + 28) 137 8 [some (.ref 283), some (.int (nI j)), some (.int 0), some (.int 0)] [.ref 22, .ref 283] (am_hh X (am_u S 283 2 0) L) _
    refine ax_s (pc' := 9) (st' := [.int (nI j), .ref 22, .ref 283]) rfl rfl rfl rfl ?_
    refine ax_ald (j := j) (v := 4) rfl (hh_22 _ _ _) rfl rfl (x1 c1) (by decide) hk ?_
    refine ax_s (pc' := 11) (st' := [.int 0, .int 4, .ref 283]) rfl rfl rfl rfl ?_
    refine ax_if_ne rfl (fun c3 => False.elim (by revert c3; decide)) (fun c3 => ?_)
    refine ax_s (pc' := 17) (st' := [.ref 3, .int 4, .ref 283]) rfl rfl rfl rfl ?_
    refine ax_s (pc' := 23) (st' := [.ref 3, .int 4, .ref 283]) rfl rfl rfl rfl ?_
    refine ax_call (vs := [.int 4, .ref 3]) (rr := [.ref 283]) rfl rfl rfl ?_
    refine ax_in (ls := [some (.int 4), some (.ref 3), none, none]) rfl ?_
    refine ax_s (pc' := 1) (st' := [.int 4]) rfl rfl rfl rfl ?_
    refine ax_s (pc' := 2) (ls' := [some (.int 4), some (.ref 3), some (.int 4), none]) (st' := []) rfl rfl rfl rfl ?_
    refine ax_s (pc' := 3) (st' := [.int 0]) rfl rfl rfl rfl ?_
    refine ax_s (pc' := 4) (ls' := [some (.int 4), some (.ref 3), some (.int 4), some (.int 0)]) (st' := []) rfl rfl rfl rfl ?_
    refine ax_s (pc' := 5) (st' := [.int 0]) rfl rfl rfl rfl ?_
    refine ax_s (pc' := 6) (st' := [.int 5, .int 0]) rfl rfl rfl rfl ?_
    refine ax_cmp_gt rfl (fun c4 => False.elim (by revert c4; decide)) (fun c4 => ?_)
    refine ax_s (pc' := 10) (st' := [.int 4]) rfl rfl rfl rfl ?_
    refine ax_call (vs := [.int 4]) (rr := []) rfl rfl rfl ?_
    refine ax_in (ls := [some (.int 4)]) rfl ?_
    refine ax_s (pc' := 1) (st' := [.int 4]) rfl rfl rfl rfl ?_
    refine ax_if_lt rfl (fun c5 => False.elim (by revert c5; decide)) (fun c5 => ?_)
    refine ax_s (pc' := 5) (st' := [.int 4]) rfl rfl rfl rfl ?_
    refine ax_s (pc' := 6) (st' := [.int 5, .int 4]) rfl rfl rfl rfl ?_
    refine ax_cmp_gt rfl (fun c6 => False.elim (by revert c6; decide)) (fun c6 => ?_)
    refine ax_s (pc' := 10) (st' := [.int 1]) rfl rfl rfl rfl ?_
    refine ax_s (pc' := 14) (st' := [.int 1]) rfl rfl rfl rfl ?_
    refine ax_rb (b := true) rfl rfl ?_
    show am_ex (d + 27) 138 13 [some (.int 4), some (.ref 3), some (.int 4), some (.int 0)] [.int 1] (am_hh X (am_u S 283 2 0) L) _
    refine ax_if_eq rfl (fun c7 => False.elim (by revert c7; decide)) (fun c7 => ?_)
    refine ax_s (pc' := 17) (st' := [.ref 3]) rfl rfl rfl rfl ?_
    refine ax_s (pc' := 18) (st' := [.int 4, .ref 3]) rfl rfl rfl rfl ?_
    refine ax_ald (j := 4) (v := 13) rfl (hh_s3 _ _ _) rfl rfl (by decide) (by decide) rfl ?_
    refine ax_s (pc' := 21) (st' := [.int (-1000000), .int 13]) rfl rfl rfl rfl ?_
    refine ax_cmp_eq rfl (fun c8 => False.elim (by revert c8; decide)) (fun c8 => ?_)
    refine ax_s (pc' := 25) (st' := [.ref 3]) rfl rfl rfl rfl ?_
    refine ax_s (pc' := 26) (st' := [.int 4, .ref 3]) rfl rfl rfl rfl ?_
    refine ax_ald (j := 4) (v := 13) rfl (hh_s3 _ _ _) rfl rfl (by decide) (by decide) rfl ?_
    refine ax_r rfl rfl rfl ?_
    show am_ex (d + 28) 137 26 [some (.ref 283), some (.int (nI j)), some (.int 0), some (.int 0)] [.int 13, .ref 283] (am_hh X (am_u S 283 2 0) L) _
    refine ax_s (pc' := 27) (st' := [.int (nI j), .int 13, .ref 283]) rfl rfl rfl rfl ?_
    refine ax_s (pc' := 28) (st' := [.int 0, .int (nI j), .int 13, .ref 283]) rfl rfl rfl rfl ?_
    refine ax_call (vs := [.ref 283, .int 13, .int (nI j), .int 0]) (rr := []) rfl rfl rfl ?_
    refine ax_in (ls := [some (.ref 283), some (.int 13), some (.int (nI j)), some (.int 0), none]) rfl ?_
    refine ax_s (pc' := 1) (st' := [.int 0]) rfl rfl rfl rfl ?_
    refine ax_s (pc' := 3) (st' := [.int 16, .int 0]) rfl rfl rfl rfl ?_
    refine ax_cmp_le rfl (fun c9 => ?_) (fun c9 => False.elim (by revert c9; decide))
    refine ax_s (pc' := 10) (st' := [.ref 283]) rfl rfl rfl rfl ?_
    refine ax_s (pc' := 11) (st' := [.int 13, .ref 283]) rfl rfl rfl rfl ?_
    refine ax_call (vs := [.ref 283, .int 13]) (rr := []) rfl rfl rfl ?_
    refine ax_in (ls := [some (.ref 283), some (.int 13)]) rfl ?_
    refine ax_s (pc' := 1) (st' := [.ref 283]) rfl rfl rfl rfl ?_
    refine ax_get rfl (hh_283 _ _ _) rfl rfl rfl ?_
    show am_ex (d + 26) 140 4 [some (.ref 283), some (.int 13)] [.int 0] (am_hh X (am_u S 283 2 0) L) _
    refine ax_if_lt rfl (fun c10 => False.elim (by revert c10; decide)) (fun c10 => ?_)
    refine ax_s (pc' := 8) (st' := [.ref 283]) rfl rfl rfl rfl ?_
    refine ax_get rfl (hh_283 _ _ _) rfl rfl rfl ?_
    show am_ex (d + 26) 140 11 [some (.ref 283), some (.int 13)] [.int 0] (am_hh X (am_u S 283 2 0) L) _
    refine ax_s (pc' := 13) (st' := [.int 16, .int 0]) rfl rfl rfl rfl ?_
    refine ax_cmp_ge rfl (fun c11 => False.elim (by revert c11; decide)) (fun c11 => ?_)
    refine ax_s (pc' := 17) (st' := [.ref 283]) rfl rfl rfl rfl ?_
    refine ax_get rfl (hh_283 _ _ _) rfl rfl rfl ?_
    show am_ex (d + 26) 140 20 [some (.ref 283), some (.int 13)] [.ref 284] (am_hh X (am_u S 283 2 0) L) _
    refine ax_s (pc' := 21) (st' := [.ref 283, .ref 284]) rfl rfl rfl rfl ?_
    refine ax_get rfl (hh_283 _ _ _) rfl rfl rfl ?_
    show am_ex (d + 26) 140 24 [some (.ref 283), some (.int 13)] [.int 0, .ref 284] (am_hh X (am_u S 283 2 0) L) _
    refine ax_s (pc' := 25) (st' := [.int 13, .int 0, .ref 284]) rfl rfl rfl rfl ?_
    refine ax_ast (j := 0) rfl (hh_284 _ _ _) rfl rfl (by decide) (by decide) (am_hh_set _ _ _ 284 0 _ rfl) ?_
    refine ax_s (pc' := 27) (st' := [.ref 283]) rfl rfl rfl rfl ?_
    refine ax_s (pc' := 28) (st' := [.ref 283, .ref 283]) rfl rfl rfl rfl ?_
    refine ax_get rfl (hh_283 _ _ _) rfl rfl rfl ?_
    show am_ex (d + 26) 140 31 [some (.ref 283), some (.int 13)] [.int 0, .ref 283] (am_hh X (am_u (am_u S 283 2 0) 284 0 13) L) _
    refine ax_s (pc' := 32) (st' := [.int 1, .int 0, .ref 283]) rfl rfl rfl rfl ?_
    refine ax_s (pc' := 33) (st' := [.int 1, .ref 283]) rfl rfl rfl rfl ?_
    refine ax_put rfl (hh_283 _ _ _) rfl rfl (show 2 + 1 ≤ _ from Nat.le_of_ble_eq_true rfl) rfl (am_hh_set _ _ _ 283 2 _ rfl) ?_
    refine ax_r rfl rfl rfl ?_
    show am_ex (d + 27) 139 14 [some (.ref 283), some (.int 13), some (.int (nI j)), some (.int 0), none] [] (am_hh X (am_u (am_u (am_u S 283 2 0) 284 0 13) 283 2 1) L) _
    refine ax_s (pc' := 15) (st' := [.int 0]) rfl rfl rfl rfl ?_
    refine ax_s (pc' := 16) (st' := [.int 1, .int 0]) rfl rfl rfl rfl ?_
    refine ax_s (pc' := 17) (st' := [.int 1]) rfl rfl rfl rfl ?_
    refine ax_s (pc' := 19) (ls' := [some (.ref 283), some (.int 13), some (.int (nI j)), some (.int 0), some (.int 1)]) (st' := []) rfl rfl rfl rfl ?_
    refine ax_s (pc' := 20) (st' := [.int 13]) rfl rfl rfl rfl ?_
    refine ax_s (pc' := 137) (ls' := [some (.ref 283), some (.int 13), some (.int (nI j)), some (.int 0), some (.int 1)]) (st' := []) (h1 := (am_hh X (am_u (am_u (am_u S 283 2 0) 284 0 13) 283 2 1) L)) rfl rfl rfl rfl ?_
    refine ax_s (pc' := 138) (st' := [.ref 283]) rfl rfl rfl rfl ?_
    refine ax_s (pc' := 140) (st' := [.int 10, .ref 283]) rfl rfl rfl rfl ?_
    refine ax_s (pc' := 141) (st' := [.int (nI j), .int 10, .ref 283]) rfl rfl rfl rfl ?_
    refine ax_s (pc' := 143) (st' := [.int 1, .int (nI j), .int 10, .ref 283]) rfl rfl rfl rfl ?_
    refine ax_call (vs := [.ref 283, .int 10, .int (nI j), .int 1]) (rr := []) rfl rfl rfl ?_
    refine ax_in (ls := [some (.ref 283), some (.int 10), some (.int (nI j)), some (.int 1), none]) rfl ?_
    refine ax_s (pc' := 1) (st' := [.int 1]) rfl rfl rfl rfl ?_
    refine ax_s (pc' := 3) (st' := [.int 16, .int 1]) rfl rfl rfl rfl ?_
    refine ax_cmp_le rfl (fun c12 => ?_) (fun c12 => False.elim (by revert c12; decide))
    refine ax_s (pc' := 10) (st' := [.ref 283]) rfl rfl rfl rfl ?_
    refine ax_s (pc' := 11) (st' := [.int 10, .ref 283]) rfl rfl rfl rfl ?_
    refine ax_call (vs := [.ref 283, .int 10]) (rr := []) rfl rfl rfl ?_
    refine ax_in (ls := [some (.ref 283), some (.int 10)]) rfl ?_
    refine ax_s (pc' := 1) (st' := [.ref 283]) rfl rfl rfl rfl ?_
    refine ax_get rfl (hh_283 _ _ _) rfl rfl rfl ?_
    show am_ex (d + 25) 140 4 [some (.ref 283), some (.int 10)] [.int 1] (am_hh X (am_u (am_u (am_u S 283 2 0) 284 0 13) 283 2 1) L) _
    refine ax_if_lt rfl (fun c13 => False.elim (by revert c13; decide)) (fun c13 => ?_)
    refine ax_s (pc' := 8) (st' := [.ref 283]) rfl rfl rfl rfl ?_
    refine ax_get rfl (hh_283 _ _ _) rfl rfl rfl ?_
    show am_ex (d + 25) 140 11 [some (.ref 283), some (.int 10)] [.int 1] (am_hh X (am_u (am_u (am_u S 283 2 0) 284 0 13) 283 2 1) L) _
    refine ax_s (pc' := 13) (st' := [.int 16, .int 1]) rfl rfl rfl rfl ?_
    refine ax_cmp_ge rfl (fun c14 => False.elim (by revert c14; decide)) (fun c14 => ?_)
    refine ax_s (pc' := 17) (st' := [.ref 283]) rfl rfl rfl rfl ?_
    refine ax_get rfl (hh_283 _ _ _) rfl rfl rfl ?_
    show am_ex (d + 25) 140 20 [some (.ref 283), some (.int 10)] [.ref 284] (am_hh X (am_u (am_u (am_u S 283 2 0) 284 0 13) 283 2 1) L) _
    refine ax_s (pc' := 21) (st' := [.ref 283, .ref 284]) rfl rfl rfl rfl ?_
    refine ax_get rfl (hh_283 _ _ _) rfl rfl rfl ?_
    show am_ex (d + 25) 140 24 [some (.ref 283), some (.int 10)] [.int 1, .ref 284] (am_hh X (am_u (am_u (am_u S 283 2 0) 284 0 13) 283 2 1) L) _
    refine ax_s (pc' := 25) (st' := [.int 10, .int 1, .ref 284]) rfl rfl rfl rfl ?_
    refine ax_ast (j := 1) rfl (hh_284 _ _ _) rfl rfl (by decide) (by decide) (am_hh_set _ _ _ 284 1 _ rfl) ?_
    refine ax_s (pc' := 27) (st' := [.ref 283]) rfl rfl rfl rfl ?_
    refine ax_s (pc' := 28) (st' := [.ref 283, .ref 283]) rfl rfl rfl rfl ?_
    refine ax_get rfl (hh_283 _ _ _) rfl rfl rfl ?_
    show am_ex (d + 25) 140 31 [some (.ref 283), some (.int 10)] [.int 1, .ref 283] (am_hh X (am_u (am_u (am_u (am_u S 283 2 0) 284 0 13) 283 2 1) 284 1 10) L) _
    refine ax_s (pc' := 32) (st' := [.int 1, .int 1, .ref 283]) rfl rfl rfl rfl ?_
    refine ax_s (pc' := 33) (st' := [.int 2, .ref 283]) rfl rfl rfl rfl ?_
    refine ax_put rfl (hh_283 _ _ _) rfl rfl (show 2 + 1 ≤ _ from Nat.le_of_ble_eq_true rfl) rfl (am_hh_set _ _ _ 283 2 _ rfl) ?_
    refine ax_r rfl rfl rfl ?_
    show am_ex (d + 26) 139 14 [some (.ref 283), some (.int 10), some (.int (nI j)), some (.int 1), none] [] (am_hh X (am_u (am_u (am_u (am_u (am_u S 283 2 0) 284 0 13) 283 2 1) 284 1 10) 283 2 2) L) _
    refine ax_s (pc' := 15) (st' := [.int 1]) rfl rfl rfl rfl ?_
    refine ax_s (pc' := 16) (st' := [.int 1, .int 1]) rfl rfl rfl rfl ?_
    refine ax_s (pc' := 17) (st' := [.int 2]) rfl rfl rfl rfl ?_
    refine ax_s (pc' := 19) (ls' := [some (.ref 283), some (.int 10), some (.int (nI j)), some (.int 1), some (.int 2)]) (st' := []) rfl rfl rfl rfl ?_
    refine ax_s (pc' := 20) (st' := [.int 10]) rfl rfl rfl rfl ?_
    refine ax_s (pc' := 96) (ls' := [some (.ref 283), some (.int 10), some (.int (nI j)), some (.int 1), some (.int 2)]) (st' := []) (h1 := (am_hh X (am_u (am_u (am_u (am_u (am_u S 283 2 0) 284 0 13) 283 2 1) 284 1 10) 283 2 2) L)) rfl rfl rfl rfl ?_
    refine ax_s (pc' := 97) (st' := [.ref 283]) rfl rfl rfl rfl ?_
    refine ax_get rfl (hh_283 _ _ _) rfl rfl rfl ?_
    show am_ex (d + 26) 139 100 [some (.ref 283), some (.int 10), some (.int (nI j)), some (.int 1), some (.int 2)] [.ref 20] (am_hh X (am_u (am_u (am_u (am_u (am_u S 283 2 0) 284 0 13) 283 2 1) 284 1 10) 283 2 2) L) _
    refine ax_get rfl (hh_20 _ _ _) rfl rfl rfl ?_
    show am_ex (d + 26) 139 103 [some (.ref 283), some (.int 10), some (.int (nI j)), some (.int 1), some (.int 2)] [.ref 23] (am_hh X (am_u (am_u (am_u (am_u (am_u S 283 2 0) 284 0 13) 283 2 1) 284 1 10) 283 2 2) L) _
    refine ax_s (pc' := 104) (st' := [.int (nI j), .ref 23]) rfl rfl rfl rfl ?_
    refine ax_ald (j := j) (v := (S 23 j)) rfl (hh_23 _ _ _) rfl rfl (x1 c1) (by decide) rfl ?_
    refine ax_r rfl rfl rfl ?_
    show am_ex (d + 27) 139 146 [some (.ref 283), some (.int 13), some (.int (nI j)), some (.int 0), some (.int 1)] [.int (S 23 j)] (am_hh X (am_u (am_u (am_u (am_u (am_u S 283 2 0) 284 0 13) 283 2 1) 284 1 10) 283 2 2) L) _
    refine ax_s (pc' := 148) (st' := [.int 100, .int (S 23 j)]) rfl rfl rfl rfl ?_
    refine ax_s (pc' := 149) (st' := [.int ((S 23 j) - 100)]) rfl rfl rfl rfl ?_
    refine ax_r rfl rfl rfl ?_
    show am_ex (d + 28) 137 31 [some (.ref 283), some (.int (nI j)), some (.int 0), some (.int 0)] [.int ((S 23 j) - 100)] (am_hh X (am_u (am_u (am_u (am_u (am_u S 283 2 0) 284 0 13) 283 2 1) 284 1 10) 283 2 2) L) _
    refine ax_r rfl rfl rfl ?_
    show am_ex (d + 29) 238 12 [some (.ref 283), some (.int (nI j)), some (.int 0)] [.int ((S 23 j) - 100)] (am_hh X (am_u (am_u (am_u (am_u (am_u S 283 2 0) 284 0 13) 283 2 1) 284 1 10) 283 2 2) L) _
    refine ax_r rfl rfl rfl ?_
    show am_ex (d + 30) 136 32 [some (.ref 5), some (.int (nI j)), some (.int 0)] [.int ((S 23 j) - 100)] (am_hh X (am_u (am_u (am_u (am_u (am_u S 283 2 0) 284 0 13) 283 2 1) 284 1 10) 283 2 2) L) _
    refine ax_r rfl rfl rfl ?_
    exact k2 c1
theorem wm_ask_4_0 {d : Nat} {X : Nat × (Nat → Int32)} {S : Nat → Nat → Int32} {L : Nat → Int64} {j : Nat} {Q : Option Value → am_H → Prop} (hk : S 290 j = 4) (hj : j < 6)  (x1 : ¬ (nI j) < 0 ∧ ¬ (S 285 7) - 1 < (nI j) → j < 6) (k1 : ¬ (¬ (nI j) < 0 ∧ ¬ (S 285 7) - 1 < (nI j)) → Q (some (.int (-1000001))) (am_hh X S L)) (k2 : ¬ (nI j) < 0 ∧ ¬ (S 285 7) - 1 < (nI j) → Q (some (.int ((S 291 j) - 100))) (am_hh X (am_u (am_u (am_u (am_u (am_u S 285 20 0) 299 0 13) 285 20 1) 299 1 10) 285 20 2) L)) : am_mt (d + 10) 224 [.ref 285, .int (nI j), .int 0] (am_hh X S L) Q := by
  refine ax_in (ls := [some (.ref 285), some (.int (nI j)), some (.int 0)]) rfl ?_
  refine ax_s (pc' := 1) (st' := [.ref 285]) rfl rfl rfl rfl ?_
  refine ax_s (pc' := 2) (st' := [.int (nI j), .ref 285]) rfl rfl rfl rfl ?_
  refine ax_call (vs := [.ref 285, .int (nI j)]) (rr := []) rfl rfl rfl ?_
  refine mt_isParty  ?_
  show am_ex (d + 10) 224 5 [some (.ref 285), some (.int (nI j)), some (.int 0)] [.int (bI (decide (¬ (nI j) < 0 ∧ ¬ (S 285 7) - 1 < (nI j))))] (am_hh X S L) _
  refine ax_pF rfl (fun c1 => ?_) (fun c1 => ?_)
  · refine ax_s (pc' := 19) (st' := [.int (-1000001)]) rfl rfl rfl rfl ?_
    refine ax_r rfl rfl rfl ?_
    exact k1 c1
  · refine ax_s (pc' := 9) (st' := [.int 0]) rfl rfl rfl rfl ?_
    refine ax_s (pc' := 10) (st' := [.int 0, .int 0]) rfl rfl rfl rfl ?_
    refine ax_s (pc' := 11) (st' := [.int 1, .int 0, .int 0]) rfl rfl rfl rfl ?_
    refine ax_call (vs := [.int 0, .int 0, .int 1]) (rr := []) rfl rfl rfl ?_
    refine mt_in ?_
    show am_ex (d + 10) 224 14 [some (.ref 285), some (.int (nI j)), some (.int 0)] [.int 1] (am_hh X S L) _
    refine ax_if_ne rfl (fun c2 => ?_) (fun c2 => False.elim (by revert c2; decide))
    refine ax_s (pc' := 21) (st' := [.ref 285]) rfl rfl rfl rfl ?_
    refine ax_s (pc' := 22) (st' := [.int 0, .ref 285]) rfl rfl rfl rfl ?_
    refine ax_put rfl (hh_285 _ _ _) rfl rfl (show 20 + 1 ≤ _ from Nat.le_of_ble_eq_true rfl) rfl (am_hh_set _ _ _ 285 20 _ rfl) ?_
    refine ax_s (pc' := 26) (st' := [.ref 285]) rfl rfl rfl rfl ?_
    refine ax_get rfl (hh_285 _ _ _) rfl rfl rfl ?_
    show am_ex (d + 10) 224 29 [some (.ref 285), some (.int (nI j)), some (.int 0)] [.ref 290] (am_hh X (am_u S 285 20 0) L) _
    refine ax_s (pc' := 30) (st' := [.int (nI j), .ref 290]) rfl rfl rfl rfl ?_
    refine ax_ald (j := j) (v := 4) rfl (hh_290 _ _ _) rfl rfl (x1 c1) (by decide) hk ?_
    refine ax_s (pc' := 32) (st' := [.int 4, .int 4]) rfl rfl rfl rfl ?_
    refine ax_cmp_ge rfl (fun c3 => ?_) (fun c3 => False.elim (by revert c3; decide))
    refine ax_s (pc' := 54) (st' := [.int 0]) rfl rfl rfl rfl ?_
    refine ax_if_ne rfl (fun c4 => False.elim (by revert c4; decide)) (fun c4 => ?_)
    refine ax_s (pc' := 58) (st' := [.ref 285]) rfl rfl rfl rfl ?_
    refine ax_s (pc' := 59) (st' := [.int (nI j), .ref 285]) rfl rfl rfl rfl ?_
    refine ax_call (vs := [.ref 285, .int (nI j)]) (rr := []) rfl rfl rfl ?_
    refine ax_in (ls := [some (.ref 285), some (.int (nI j)), none]) rfl ?_
    refine ax_s (pc' := 1) (st' := [.ref 285]) rfl rfl rfl rfl ?_
    refine ax_get rfl (hh_285 _ _ _) rfl rfl rfl ?_
    show am_ex (d + 9) 231 4 [some (.ref 285), some (.int (nI j)), none] [.ref 290] (am_hh X (am_u S 285 20 0) L) _
    refine ax_s (pc' := 5) (st' := [.int (nI j), .ref 290]) rfl rfl rfl rfl ?_
    refine ax_ald (j := j) (v := 4) rfl (hh_290 _ _ _) rfl rfl (x1 c1) (by decide) hk ?_
    refine ax_s (pc' := 7) (st' := [.int 5, .int 4]) rfl rfl rfl rfl ?_
    refine ax_cmp_ne rfl (fun c5 => ?_) (fun c5 => False.elim (by revert c5; decide))
    refine ax_s (pc' := 17) (st' := [.ref 285]) rfl rfl rfl rfl ?_
    refine ax_s (pc' := 19) (st' := [.int 13, .ref 285]) rfl rfl rfl rfl ?_
    refine ax_call (vs := [.ref 285, .int 13]) (rr := []) rfl rfl rfl ?_
    refine ax_in (ls := [some (.ref 285), some (.int 13)]) rfl ?_
    refine ax_s (pc' := 1) (st' := [.ref 285]) rfl rfl rfl rfl ?_
    refine ax_get rfl (hh_285 _ _ _) rfl rfl rfl ?_
    show am_ex (d + 8) 226 4 [some (.ref 285), some (.int 13)] [.int 0] (am_hh X (am_u S 285 20 0) L) _
    refine ax_s (pc' := 6) (st' := [.int 16, .int 0]) rfl rfl rfl rfl ?_
    refine ax_cmp_ge rfl (fun c6 => False.elim (by revert c6; decide)) (fun c6 => ?_)
    refine ax_s (pc' := 10) (st' := [.ref 285]) rfl rfl rfl rfl ?_
    refine ax_get rfl (hh_285 _ _ _) rfl rfl rfl ?_
    show am_ex (d + 8) 226 13 [some (.ref 285), some (.int 13)] [.ref 299] (am_hh X (am_u S 285 20 0) L) _
    refine ax_s (pc' := 14) (st' := [.ref 285, .ref 299]) rfl rfl rfl rfl ?_
    refine ax_get rfl (hh_285 _ _ _) rfl rfl rfl ?_
    show am_ex (d + 8) 226 17 [some (.ref 285), some (.int 13)] [.int 0, .ref 299] (am_hh X (am_u S 285 20 0) L) _
    refine ax_s (pc' := 18) (st' := [.int 13, .int 0, .ref 299]) rfl rfl rfl rfl ?_
    refine ax_ast (j := 0) rfl (hh_299 _ _ _) rfl rfl (by decide) (by decide) (am_hh_set _ _ _ 299 0 _ rfl) ?_
    refine ax_s (pc' := 20) (st' := [.ref 285]) rfl rfl rfl rfl ?_
    refine ax_s (pc' := 21) (st' := [.ref 285, .ref 285]) rfl rfl rfl rfl ?_
    refine ax_get rfl (hh_285 _ _ _) rfl rfl rfl ?_
    show am_ex (d + 8) 226 24 [some (.ref 285), some (.int 13)] [.int 0, .ref 285] (am_hh X (am_u (am_u S 285 20 0) 299 0 13) L) _
    refine ax_s (pc' := 25) (st' := [.int 1, .int 0, .ref 285]) rfl rfl rfl rfl ?_
    refine ax_s (pc' := 26) (st' := [.int 1, .ref 285]) rfl rfl rfl rfl ?_
    refine ax_put rfl (hh_285 _ _ _) rfl rfl (show 20 + 1 ≤ _ from Nat.le_of_ble_eq_true rfl) rfl (am_hh_set _ _ _ 285 20 _ rfl) ?_
    refine ax_r rfl rfl rfl ?_
    show am_ex (d + 9) 231 22 [some (.ref 285), some (.int (nI j)), none] [] (am_hh X (am_u (am_u (am_u S 285 20 0) 299 0 13) 285 20 1) L) _
    refine ax_s (pc' := 23) (st' := [.ref 285]) rfl rfl rfl rfl ?_
    refine ax_s (pc' := 24) (st' := [.int (nI j), .ref 285]) rfl rfl rfl rfl ?_
    refine ax_call (vs := [.ref 285, .int (nI j)]) (rr := []) rfl rfl rfl ?_
    refine ax_in (ls := [some (.ref 285), some (.int (nI j))]) rfl ?_
    refine ax_s (pc' := 1) (st' := [.ref 285]) rfl rfl rfl rfl ?_
    refine ax_s (pc' := 3) (st' := [.int 10, .ref 285]) rfl rfl rfl rfl ?_
    refine ax_call (vs := [.ref 285, .int 10]) (rr := []) rfl rfl rfl ?_
    refine ax_in (ls := [some (.ref 285), some (.int 10)]) rfl ?_
    refine ax_s (pc' := 1) (st' := [.ref 285]) rfl rfl rfl rfl ?_
    refine ax_get rfl (hh_285 _ _ _) rfl rfl rfl ?_
    show am_ex (d + 7) 226 4 [some (.ref 285), some (.int 10)] [.int 1] (am_hh X (am_u (am_u (am_u S 285 20 0) 299 0 13) 285 20 1) L) _
    refine ax_s (pc' := 6) (st' := [.int 16, .int 1]) rfl rfl rfl rfl ?_
    refine ax_cmp_ge rfl (fun c7 => False.elim (by revert c7; decide)) (fun c7 => ?_)
    refine ax_s (pc' := 10) (st' := [.ref 285]) rfl rfl rfl rfl ?_
    refine ax_get rfl (hh_285 _ _ _) rfl rfl rfl ?_
    show am_ex (d + 7) 226 13 [some (.ref 285), some (.int 10)] [.ref 299] (am_hh X (am_u (am_u (am_u S 285 20 0) 299 0 13) 285 20 1) L) _
    refine ax_s (pc' := 14) (st' := [.ref 285, .ref 299]) rfl rfl rfl rfl ?_
    refine ax_get rfl (hh_285 _ _ _) rfl rfl rfl ?_
    show am_ex (d + 7) 226 17 [some (.ref 285), some (.int 10)] [.int 1, .ref 299] (am_hh X (am_u (am_u (am_u S 285 20 0) 299 0 13) 285 20 1) L) _
    refine ax_s (pc' := 18) (st' := [.int 10, .int 1, .ref 299]) rfl rfl rfl rfl ?_
    refine ax_ast (j := 1) rfl (hh_299 _ _ _) rfl rfl (by decide) (by decide) (am_hh_set _ _ _ 299 1 _ rfl) ?_
    refine ax_s (pc' := 20) (st' := [.ref 285]) rfl rfl rfl rfl ?_
    refine ax_s (pc' := 21) (st' := [.ref 285, .ref 285]) rfl rfl rfl rfl ?_
    refine ax_get rfl (hh_285 _ _ _) rfl rfl rfl ?_
    show am_ex (d + 7) 226 24 [some (.ref 285), some (.int 10)] [.int 1, .ref 285] (am_hh X (am_u (am_u (am_u (am_u S 285 20 0) 299 0 13) 285 20 1) 299 1 10) L) _
    refine ax_s (pc' := 25) (st' := [.int 1, .int 1, .ref 285]) rfl rfl rfl rfl ?_
    refine ax_s (pc' := 26) (st' := [.int 2, .ref 285]) rfl rfl rfl rfl ?_
    refine ax_put rfl (hh_285 _ _ _) rfl rfl (show 20 + 1 ≤ _ from Nat.le_of_ble_eq_true rfl) rfl (am_hh_set _ _ _ 285 20 _ rfl) ?_
    refine ax_r rfl rfl rfl ?_
    show am_ex (d + 8) 227 6 [some (.ref 285), some (.int (nI j))] [] (am_hh X (am_u (am_u (am_u (am_u (am_u S 285 20 0) 299 0 13) 285 20 1) 299 1 10) 285 20 2) L) _
    refine ax_s (pc' := 7) (st' := [.ref 285]) rfl rfl rfl rfl ?_
    refine ax_get rfl (hh_285 _ _ _) rfl rfl rfl ?_
    show am_ex (d + 8) 227 10 [some (.ref 285), some (.int (nI j))] [.ref 291] (am_hh X (am_u (am_u (am_u (am_u (am_u S 285 20 0) 299 0 13) 285 20 1) 299 1 10) 285 20 2) L) _
    refine ax_s (pc' := 11) (st' := [.int (nI j), .ref 291]) rfl rfl rfl rfl ?_
    refine ax_ald (j := j) (v := (S 291 j)) rfl (hh_291 _ _ _) rfl rfl (x1 c1) (by decide) rfl ?_
    refine ax_r rfl rfl rfl ?_
    show am_ex (d + 9) 231 27 [some (.ref 285), some (.int (nI j)), none] [.int (S 291 j)] (am_hh X (am_u (am_u (am_u (am_u (am_u S 285 20 0) 299 0 13) 285 20 1) 299 1 10) 285 20 2) L) _
    refine ax_s (pc' := 29) (st' := [.int 100, .int (S 291 j)]) rfl rfl rfl rfl ?_
    refine ax_s (pc' := 30) (st' := [.int ((S 291 j) - 100)]) rfl rfl rfl rfl ?_
    refine ax_s (pc' := 31) (ls' := [some (.ref 285), some (.int (nI j)), some (.int ((S 291 j) - 100))]) (st' := []) rfl rfl rfl rfl ?_
    refine ax_s (pc' := 32) (st' := [.ref 285]) rfl rfl rfl rfl ?_
    refine ax_get rfl (hh_285 _ _ _) rfl rfl rfl ?_
    show am_ex (d + 9) 231 35 [some (.ref 285), some (.int (nI j)), some (.int ((S 291 j) - 100))] [.ref 290] (am_hh X (am_u (am_u (am_u (am_u (am_u S 285 20 0) 299 0 13) 285 20 1) 299 1 10) 285 20 2) L) _
    refine ax_s (pc' := 36) (st' := [.int (nI j), .ref 290]) rfl rfl rfl rfl ?_
    refine ax_ald (j := j) (v := 4) rfl (hh_290 _ _ _) rfl rfl (x1 c1) (by decide) hk ?_
    refine ax_s (pc' := 38) (st' := [.int 5, .int 4]) rfl rfl rfl rfl ?_
    refine ax_cmp_ne rfl (fun c8 => ?_) (fun c8 => False.elim (by revert c8; decide))
    refine ax_s (pc' := 48) (st' := [.int ((S 291 j) - 100)]) rfl rfl rfl rfl ?_
    refine ax_r rfl rfl rfl ?_
    show am_ex (d + 10) 224 62 [some (.ref 285), some (.int (nI j)), some (.int 0)] [.int ((S 291 j) - 100)] (am_hh X (am_u (am_u (am_u (am_u (am_u S 285 20 0) 299 0 13) 285 20 1) 299 1 10) 285 20 2) L) _
    refine ax_s (pc' := 70) (st' := [.int ((S 291 j) - 100)]) rfl rfl rfl rfl ?_
    refine ax_r rfl rfl rfl ?_
    exact k2 c1
theorem wk_ask_4_1 {d : Nat} {X : Nat × (Nat → Int32)} {S : Nat → Nat → Int32} {L : Nat → Int64} {j : Nat} {Q : Option Value → am_H → Prop} (hk : S 22 j = 4) (hj : j < 6)  (x1 : ¬ (nI j) < 0 ∧ ¬ (S 20 4) ≤ (nI j) → j < 6) (k1 : ¬ (¬ (nI j) < 0 ∧ ¬ (S 20 4) ≤ (nI j)) → Q (some (.int (-1000001))) (am_hh X S L)) (k2 : ¬ (nI j) < 0 ∧ ¬ (S 20 4) ≤ (nI j) → Q (some (.int ((nI j) - ((S 23 j) - 100)))) (am_hh X (am_u (am_u (am_u (am_u (am_u (am_u (am_u (am_u (am_u S 283 2 0) 284 0 23) 283 2 1) 284 1 20) 283 2 2) 284 2 13) 283 2 3) 284 3 10) 283 2 4) L)) : am_mt (d + 30) 136 [.ref 5, .int (nI j), .int 1] (am_hh X S L) Q := by
  refine ax_in (ls := [some (.ref 5), some (.int (nI j)), some (.int 1)]) rfl ?_
  refine ax_s (pc' := 1) (st' := [.ref 5]) rfl rfl rfl rfl ?_
  refine ax_get rfl (hh_5 _ _ _) rfl rfl rfl ?_
  show am_ex (d + 30) 136 4 [some (.ref 5), some (.int (nI j)), some (.int 1)] [.ref 20] (am_hh X S L) _
  refine ax_s (pc' := 5) (st' := [.int (nI j), .ref 20]) rfl rfl rfl rfl ?_
  refine ax_call (vs := [.ref 20, .int (nI j)]) (rr := []) rfl rfl rfl ?_
  refine kw (am_hh_sub isW20 X S L) (am_hh_sub isW20 X S L).symm (fun _ => ct_hasParty (am_isW_k isW20 X S L)) ?_
  show am_ex (d + 30) 136 8 [some (.ref 5), some (.int (nI j)), some (.int 1)] [.int (bI (decide (¬ (nI j) < 0 ∧ ¬ (S 20 4) ≤ (nI j))))] (am_hh X S L) _
  refine ax_pF rfl (fun c1 => ?_) (fun c1 => ?_)
  · refine ax_s (pc' := 22) (st' := [.int (-1000001)]) rfl rfl rfl rfl ?_
    refine ax_r rfl rfl rfl ?_
    exact k1 c1
  · refine ax_s (pc' := 12) (st' := [.int 1]) rfl rfl rfl rfl ?_
    refine ax_s (pc' := 13) (st' := [.int 0, .int 1]) rfl rfl rfl rfl ?_
    refine ax_s (pc' := 14) (st' := [.int 1, .int 0, .int 1]) rfl rfl rfl rfl ?_
    refine ax_call (vs := [.int 1, .int 0, .int 1]) (rr := []) rfl rfl rfl ?_
    refine ct_isOutside ?_
    show am_ex (d + 30) 136 17 [some (.ref 5), some (.int (nI j)), some (.int 1)] [.int 0] (am_hh X S L) _
    refine ax_if_eq rfl (fun c2 => ?_) (fun c2 => False.elim (by revert c2; decide))
    refine ax_s (pc' := 24) (st' := [.ref 5]) rfl rfl rfl rfl ?_
    refine ax_get rfl (hh_5 _ _ _) rfl rfl rfl ?_
    show am_ex (d + 30) 136 27 [some (.ref 5), some (.int (nI j)), some (.int 1)] [.ref 283] (am_hh X S L) _
    refine ax_s (pc' := 28) (st' := [.int (nI j), .ref 283]) rfl rfl rfl rfl ?_
    refine ax_s (pc' := 29) (st' := [.int 1, .int (nI j), .ref 283]) rfl rfl rfl rfl ?_
    refine ax_call (vs := [.ref 283, .int (nI j), .int 1]) (rr := []) rfl rfl rfl ?_
    refine ax_in (ls := [some (.ref 283), some (.int (nI j)), some (.int 1)]) rfl ?_
    refine ax_s (pc' := 1) (st' := [.ref 283]) rfl rfl rfl rfl ?_
    refine ax_s (pc' := 2) (st' := [.int 0, .ref 283]) rfl rfl rfl rfl ?_
    refine ax_put rfl (hh_283 _ _ _) rfl rfl (show 2 + 1 ≤ _ from Nat.le_of_ble_eq_true rfl) rfl (am_hh_set _ _ _ 283 2 _ rfl) ?_
    refine ax_s (pc' := 6) (st' := [.ref 283]) rfl rfl rfl rfl ?_
    refine ax_s (pc' := 7) (st' := [.int (nI j), .ref 283]) rfl rfl rfl rfl ?_
    refine ax_s (pc' := 8) (st' := [.int 1, .int (nI j), .ref 283]) rfl rfl rfl rfl ?_
    refine ax_s (pc' := 9) (st' := [.int 0, .int 1, .int (nI j), .ref 283]) rfl rfl rfl rfl ?_
    refine ax_call (vs := [.ref 283, .int (nI j), .int 1, .int 0]) (rr := []) rfl rfl rfl ?_
    refine ax_in (ls := [some (.ref 283), some (.int (nI j)), some (.int 1), some (.int 0)]) rfl ?_
    refine ax_s (pc' := 1) (st' := [.ref 283]) rfl rfl rfl rfl ?_
    refine ax_s (pc' := 2) (st' := [.ref 283, .ref 283]) rfl rfl rfl rfl ?_
    refine ax_get rfl (hh_283 _ _ _) rfl rfl rfl ?_
    show am_ex (d + 28) 137 5 [some (.ref 283), some (.int (nI j)), some (.int 1), some (.int 0)] [.ref 20, .ref 283] (am_hh X (am_u S 283 2 0) L) _
    refine ax_get rfl (hh_20 _ _ _) rfl rfl rfl ?_
    show am_ex (d + 28) 137 8 [some (.ref 283), some (.int (nI j)), some (.int 1), some (.int 0)] [.ref 22, .ref 283] (am_hh X (am_u S 283 2 0) L) _
    refine ax_s (pc' := 9) (st' := [.int (nI j), .ref 22, .ref 283]) rfl rfl rfl rfl ?_
    refine ax_ald (j := j) (v := 4) rfl (hh_22 _ _ _) rfl rfl (x1 c1) (by decide) hk ?_
    refine ax_s (pc' := 11) (st' := [.int 1, .int 4, .ref 283]) rfl rfl rfl rfl ?_
    refine ax_if_ne rfl (fun c3 => ?_) (fun c3 => False.elim (by revert c3; decide))
    refine ax_s (pc' := 23) (st' := [.ref 4, .int 4, .ref 283]) rfl rfl rfl rfl ?_
    refine ax_call (vs := [.int 4, .ref 4]) (rr := [.ref 283]) rfl rfl rfl ?_
    refine ax_in (ls := [some (.int 4), some (.ref 4), none, none]) rfl ?_
    refine ax_s (pc' := 1) (st' := [.int 4]) rfl rfl rfl rfl ?_
    refine ax_s (pc' := 2) (ls' := [some (.int 4), some (.ref 4), some (.int 4), none]) (st' := []) rfl rfl rfl rfl ?_
    refine ax_s (pc' := 3) (st' := [.int 0]) rfl rfl rfl rfl ?_
    refine ax_s (pc' := 4) (ls' := [some (.int 4), some (.ref 4), some (.int 4), some (.int 0)]) (st' := []) rfl rfl rfl rfl ?_
    refine ax_s (pc' := 5) (st' := [.int 0]) rfl rfl rfl rfl ?_
    refine ax_s (pc' := 6) (st' := [.int 5, .int 0]) rfl rfl rfl rfl ?_
    refine ax_cmp_gt rfl (fun c4 => False.elim (by revert c4; decide)) (fun c4 => ?_)
    refine ax_s (pc' := 10) (st' := [.int 4]) rfl rfl rfl rfl ?_
    refine ax_call (vs := [.int 4]) (rr := []) rfl rfl rfl ?_
    refine ax_in (ls := [some (.int 4)]) rfl ?_
    refine ax_s (pc' := 1) (st' := [.int 4]) rfl rfl rfl rfl ?_
    refine ax_if_lt rfl (fun c5 => False.elim (by revert c5; decide)) (fun c5 => ?_)
    refine ax_s (pc' := 5) (st' := [.int 4]) rfl rfl rfl rfl ?_
    refine ax_s (pc' := 6) (st' := [.int 5, .int 4]) rfl rfl rfl rfl ?_
    refine ax_cmp_gt rfl (fun c6 => False.elim (by revert c6; decide)) (fun c6 => ?_)
    refine ax_s (pc' := 10) (st' := [.int 1]) rfl rfl rfl rfl ?_
    refine ax_s (pc' := 14) (st' := [.int 1]) rfl rfl rfl rfl ?_
    refine ax_rb (b := true) rfl rfl ?_
    show am_ex (d + 27) 138 13 [some (.int 4), some (.ref 4), some (.int 4), some (.int 0)] [.int 1] (am_hh X (am_u S 283 2 0) L) _
    refine ax_if_eq rfl (fun c7 => False.elim (by revert c7; decide)) (fun c7 => ?_)
    refine ax_s (pc' := 17) (st' := [.ref 4]) rfl rfl rfl rfl ?_
    refine ax_s (pc' := 18) (st' := [.int 4, .ref 4]) rfl rfl rfl rfl ?_
    refine ax_ald (j := 4) (v := 23) rfl (hh_s4 _ _ _) rfl rfl (by decide) (by decide) rfl ?_
    refine ax_s (pc' := 21) (st' := [.int (-1000000), .int 23]) rfl rfl rfl rfl ?_
    refine ax_cmp_eq rfl (fun c8 => False.elim (by revert c8; decide)) (fun c8 => ?_)
    refine ax_s (pc' := 25) (st' := [.ref 4]) rfl rfl rfl rfl ?_
    refine ax_s (pc' := 26) (st' := [.int 4, .ref 4]) rfl rfl rfl rfl ?_
    refine ax_ald (j := 4) (v := 23) rfl (hh_s4 _ _ _) rfl rfl (by decide) (by decide) rfl ?_
    refine ax_r rfl rfl rfl ?_
    show am_ex (d + 28) 137 26 [some (.ref 283), some (.int (nI j)), some (.int 1), some (.int 0)] [.int 23, .ref 283] (am_hh X (am_u S 283 2 0) L) _
    refine ax_s (pc' := 27) (st' := [.int (nI j), .int 23, .ref 283]) rfl rfl rfl rfl ?_
    refine ax_s (pc' := 28) (st' := [.int 0, .int (nI j), .int 23, .ref 283]) rfl rfl rfl rfl ?_
    refine ax_call (vs := [.ref 283, .int 23, .int (nI j), .int 0]) (rr := []) rfl rfl rfl ?_
    refine ax_in (ls := [some (.ref 283), some (.int 23), some (.int (nI j)), some (.int 0), none]) rfl ?_
    refine ax_s (pc' := 1) (st' := [.int 0]) rfl rfl rfl rfl ?_
    refine ax_s (pc' := 3) (st' := [.int 16, .int 0]) rfl rfl rfl rfl ?_
    refine ax_cmp_le rfl (fun c9 => ?_) (fun c9 => False.elim (by revert c9; decide))
    refine ax_s (pc' := 10) (st' := [.ref 283]) rfl rfl rfl rfl ?_
    refine ax_s (pc' := 11) (st' := [.int 23, .ref 283]) rfl rfl rfl rfl ?_
    refine ax_call (vs := [.ref 283, .int 23]) (rr := []) rfl rfl rfl ?_
    refine ax_in (ls := [some (.ref 283), some (.int 23)]) rfl ?_
    refine ax_s (pc' := 1) (st' := [.ref 283]) rfl rfl rfl rfl ?_
    refine ax_get rfl (hh_283 _ _ _) rfl rfl rfl ?_
    show am_ex (d + 26) 140 4 [some (.ref 283), some (.int 23)] [.int 0] (am_hh X (am_u S 283 2 0) L) _
    refine ax_if_lt rfl (fun c10 => False.elim (by revert c10; decide)) (fun c10 => ?_)
    refine ax_s (pc' := 8) (st' := [.ref 283]) rfl rfl rfl rfl ?_
    refine ax_get rfl (hh_283 _ _ _) rfl rfl rfl ?_
    show am_ex (d + 26) 140 11 [some (.ref 283), some (.int 23)] [.int 0] (am_hh X (am_u S 283 2 0) L) _
    refine ax_s (pc' := 13) (st' := [.int 16, .int 0]) rfl rfl rfl rfl ?_
    refine ax_cmp_ge rfl (fun c11 => False.elim (by revert c11; decide)) (fun c11 => ?_)
    refine ax_s (pc' := 17) (st' := [.ref 283]) rfl rfl rfl rfl ?_
    refine ax_get rfl (hh_283 _ _ _) rfl rfl rfl ?_
    show am_ex (d + 26) 140 20 [some (.ref 283), some (.int 23)] [.ref 284] (am_hh X (am_u S 283 2 0) L) _
    refine ax_s (pc' := 21) (st' := [.ref 283, .ref 284]) rfl rfl rfl rfl ?_
    refine ax_get rfl (hh_283 _ _ _) rfl rfl rfl ?_
    show am_ex (d + 26) 140 24 [some (.ref 283), some (.int 23)] [.int 0, .ref 284] (am_hh X (am_u S 283 2 0) L) _
    refine ax_s (pc' := 25) (st' := [.int 23, .int 0, .ref 284]) rfl rfl rfl rfl ?_
    refine ax_ast (j := 0) rfl (hh_284 _ _ _) rfl rfl (by decide) (by decide) (am_hh_set _ _ _ 284 0 _ rfl) ?_
    refine ax_s (pc' := 27) (st' := [.ref 283]) rfl rfl rfl rfl ?_
    refine ax_s (pc' := 28) (st' := [.ref 283, .ref 283]) rfl rfl rfl rfl ?_
    refine ax_get rfl (hh_283 _ _ _) rfl rfl rfl ?_
    show am_ex (d + 26) 140 31 [some (.ref 283), some (.int 23)] [.int 0, .ref 283] (am_hh X (am_u (am_u S 283 2 0) 284 0 23) L) _
    refine ax_s (pc' := 32) (st' := [.int 1, .int 0, .ref 283]) rfl rfl rfl rfl ?_
    refine ax_s (pc' := 33) (st' := [.int 1, .ref 283]) rfl rfl rfl rfl ?_
    refine ax_put rfl (hh_283 _ _ _) rfl rfl (show 2 + 1 ≤ _ from Nat.le_of_ble_eq_true rfl) rfl (am_hh_set _ _ _ 283 2 _ rfl) ?_
    refine ax_r rfl rfl rfl ?_
    show am_ex (d + 27) 139 14 [some (.ref 283), some (.int 23), some (.int (nI j)), some (.int 0), none] [] (am_hh X (am_u (am_u (am_u S 283 2 0) 284 0 23) 283 2 1) L) _
    refine ax_s (pc' := 15) (st' := [.int 0]) rfl rfl rfl rfl ?_
    refine ax_s (pc' := 16) (st' := [.int 1, .int 0]) rfl rfl rfl rfl ?_
    refine ax_s (pc' := 17) (st' := [.int 1]) rfl rfl rfl rfl ?_
    refine ax_s (pc' := 19) (ls' := [some (.ref 283), some (.int 23), some (.int (nI j)), some (.int 0), some (.int 1)]) (st' := []) rfl rfl rfl rfl ?_
    refine ax_s (pc' := 20) (st' := [.int 23]) rfl rfl rfl rfl ?_
    refine ax_s (pc' := 198) (ls' := [some (.ref 283), some (.int 23), some (.int (nI j)), some (.int 0), some (.int 1)]) (st' := []) (h1 := (am_hh X (am_u (am_u (am_u S 283 2 0) 284 0 23) 283 2 1) L)) rfl rfl rfl rfl ?_
    refine ax_s (pc' := 199) (st' := [.ref 283]) rfl rfl rfl rfl ?_
    refine ax_s (pc' := 201) (st' := [.int 20, .ref 283]) rfl rfl rfl rfl ?_
    refine ax_s (pc' := 202) (st' := [.int (nI j), .int 20, .ref 283]) rfl rfl rfl rfl ?_
    refine ax_s (pc' := 204) (st' := [.int 1, .int (nI j), .int 20, .ref 283]) rfl rfl rfl rfl ?_
    refine ax_call (vs := [.ref 283, .int 20, .int (nI j), .int 1]) (rr := []) rfl rfl rfl ?_
    refine ax_in (ls := [some (.ref 283), some (.int 20), some (.int (nI j)), some (.int 1), none]) rfl ?_
    refine ax_s (pc' := 1) (st' := [.int 1]) rfl rfl rfl rfl ?_
    refine ax_s (pc' := 3) (st' := [.int 16, .int 1]) rfl rfl rfl rfl ?_
    refine ax_cmp_le rfl (fun c12 => ?_) (fun c12 => False.elim (by revert c12; decide))
    refine ax_s (pc' := 10) (st' := [.ref 283]) rfl rfl rfl rfl ?_
    refine ax_s (pc' := 11) (st' := [.int 20, .ref 283]) rfl rfl rfl rfl ?_
    refine ax_call (vs := [.ref 283, .int 20]) (rr := []) rfl rfl rfl ?_
    refine ax_in (ls := [some (.ref 283), some (.int 20)]) rfl ?_
    refine ax_s (pc' := 1) (st' := [.ref 283]) rfl rfl rfl rfl ?_
    refine ax_get rfl (hh_283 _ _ _) rfl rfl rfl ?_
    show am_ex (d + 25) 140 4 [some (.ref 283), some (.int 20)] [.int 1] (am_hh X (am_u (am_u (am_u S 283 2 0) 284 0 23) 283 2 1) L) _
    refine ax_if_lt rfl (fun c13 => False.elim (by revert c13; decide)) (fun c13 => ?_)
    refine ax_s (pc' := 8) (st' := [.ref 283]) rfl rfl rfl rfl ?_
    refine ax_get rfl (hh_283 _ _ _) rfl rfl rfl ?_
    show am_ex (d + 25) 140 11 [some (.ref 283), some (.int 20)] [.int 1] (am_hh X (am_u (am_u (am_u S 283 2 0) 284 0 23) 283 2 1) L) _
    refine ax_s (pc' := 13) (st' := [.int 16, .int 1]) rfl rfl rfl rfl ?_
    refine ax_cmp_ge rfl (fun c14 => False.elim (by revert c14; decide)) (fun c14 => ?_)
    refine ax_s (pc' := 17) (st' := [.ref 283]) rfl rfl rfl rfl ?_
    refine ax_get rfl (hh_283 _ _ _) rfl rfl rfl ?_
    show am_ex (d + 25) 140 20 [some (.ref 283), some (.int 20)] [.ref 284] (am_hh X (am_u (am_u (am_u S 283 2 0) 284 0 23) 283 2 1) L) _
    refine ax_s (pc' := 21) (st' := [.ref 283, .ref 284]) rfl rfl rfl rfl ?_
    refine ax_get rfl (hh_283 _ _ _) rfl rfl rfl ?_
    show am_ex (d + 25) 140 24 [some (.ref 283), some (.int 20)] [.int 1, .ref 284] (am_hh X (am_u (am_u (am_u S 283 2 0) 284 0 23) 283 2 1) L) _
    refine ax_s (pc' := 25) (st' := [.int 20, .int 1, .ref 284]) rfl rfl rfl rfl ?_
    refine ax_ast (j := 1) rfl (hh_284 _ _ _) rfl rfl (by decide) (by decide) (am_hh_set _ _ _ 284 1 _ rfl) ?_
    refine ax_s (pc' := 27) (st' := [.ref 283]) rfl rfl rfl rfl ?_
    refine ax_s (pc' := 28) (st' := [.ref 283, .ref 283]) rfl rfl rfl rfl ?_
    refine ax_get rfl (hh_283 _ _ _) rfl rfl rfl ?_
    show am_ex (d + 25) 140 31 [some (.ref 283), some (.int 20)] [.int 1, .ref 283] (am_hh X (am_u (am_u (am_u (am_u S 283 2 0) 284 0 23) 283 2 1) 284 1 20) L) _
    refine ax_s (pc' := 32) (st' := [.int 1, .int 1, .ref 283]) rfl rfl rfl rfl ?_
    refine ax_s (pc' := 33) (st' := [.int 2, .ref 283]) rfl rfl rfl rfl ?_
    refine ax_put rfl (hh_283 _ _ _) rfl rfl (show 2 + 1 ≤ _ from Nat.le_of_ble_eq_true rfl) rfl (am_hh_set _ _ _ 283 2 _ rfl) ?_
    refine ax_r rfl rfl rfl ?_
    show am_ex (d + 26) 139 14 [some (.ref 283), some (.int 20), some (.int (nI j)), some (.int 1), none] [] (am_hh X (am_u (am_u (am_u (am_u (am_u S 283 2 0) 284 0 23) 283 2 1) 284 1 20) 283 2 2) L) _
    refine ax_s (pc' := 15) (st' := [.int 1]) rfl rfl rfl rfl ?_
    refine ax_s (pc' := 16) (st' := [.int 1, .int 1]) rfl rfl rfl rfl ?_
    refine ax_s (pc' := 17) (st' := [.int 2]) rfl rfl rfl rfl ?_
    refine ax_s (pc' := 19) (ls' := [some (.ref 283), some (.int 20), some (.int (nI j)), some (.int 1), some (.int 2)]) (st' := []) rfl rfl rfl rfl ?_
    refine ax_s (pc' := 20) (st' := [.int 20]) rfl rfl rfl rfl ?_
    refine ax_s (pc' := 162) (ls' := [some (.ref 283), some (.int 20), some (.int (nI j)), some (.int 1), some (.int 2)]) (st' := []) (h1 := (am_hh X (am_u (am_u (am_u (am_u (am_u S 283 2 0) 284 0 23) 283 2 1) 284 1 20) 283 2 2) L)) rfl rfl rfl rfl ?_
    refine ax_s (pc' := 163) (st' := [.int (nI j)]) rfl rfl rfl rfl ?_
    refine ax_r rfl rfl rfl ?_
    show am_ex (d + 27) 139 207 [some (.ref 283), some (.int 23), some (.int (nI j)), some (.int 0), some (.int 1)] [.int (nI j)] (am_hh X (am_u (am_u (am_u (am_u (am_u S 283 2 0) 284 0 23) 283 2 1) 284 1 20) 283 2 2) L) _
    refine ax_s (pc' := 208) (st' := [.ref 283, .int (nI j)]) rfl rfl rfl rfl ?_
    refine ax_s (pc' := 209) (st' := [.int (nI j), .ref 283, .int (nI j)]) rfl rfl rfl rfl ?_
    refine ax_s (pc' := 210) (st' := [.int 0, .int (nI j), .ref 283, .int (nI j)]) rfl rfl rfl rfl ?_
    refine ax_s (pc' := 212) (st' := [.int 1, .int 0, .int (nI j), .ref 283, .int (nI j)]) rfl rfl rfl rfl ?_
    refine ax_call (vs := [.ref 283, .int (nI j), .int 0, .int 1]) (rr := [.int (nI j)]) rfl rfl rfl ?_
    refine ax_in (ls := [some (.ref 283), some (.int (nI j)), some (.int 0), some (.int 1)]) rfl ?_
    refine ax_s (pc' := 1) (st' := [.ref 283]) rfl rfl rfl rfl ?_
    refine ax_s (pc' := 2) (st' := [.ref 283, .ref 283]) rfl rfl rfl rfl ?_
    refine ax_get rfl (hh_283 _ _ _) rfl rfl rfl ?_
    show am_ex (d + 26) 137 5 [some (.ref 283), some (.int (nI j)), some (.int 0), some (.int 1)] [.ref 20, .ref 283] (am_hh X (am_u (am_u (am_u (am_u (am_u S 283 2 0) 284 0 23) 283 2 1) 284 1 20) 283 2 2) L) _
    refine ax_get rfl (hh_20 _ _ _) rfl rfl rfl ?_
    show am_ex (d + 26) 137 8 [some (.ref 283), some (.int (nI j)), some (.int 0), some (.int 1)] [.ref 22, .ref 283] (am_hh X (am_u (am_u (am_u (am_u (am_u S 283 2 0) 284 0 23) 283 2 1) 284 1 20) 283 2 2) L) _
    refine ax_s (pc' := 9) (st' := [.int (nI j), .ref 22, .ref 283]) rfl rfl rfl rfl ?_
    refine ax_ald (j := j) (v := 4) rfl (hh_22 _ _ _) rfl rfl (x1 c1) (by decide) hk ?_
    refine ax_s (pc' := 11) (st' := [.int 0, .int 4, .ref 283]) rfl rfl rfl rfl ?_
    refine ax_if_ne rfl (fun c15 => False.elim (by revert c15; decide)) (fun c15 => ?_)
    refine ax_s (pc' := 17) (st' := [.ref 3, .int 4, .ref 283]) rfl rfl rfl rfl ?_
    refine ax_s (pc' := 23) (st' := [.ref 3, .int 4, .ref 283]) rfl rfl rfl rfl ?_
    refine ax_call (vs := [.int 4, .ref 3]) (rr := [.ref 283]) rfl rfl rfl ?_
    refine ax_in (ls := [some (.int 4), some (.ref 3), none, none]) rfl ?_
    refine ax_s (pc' := 1) (st' := [.int 4]) rfl rfl rfl rfl ?_
    refine ax_s (pc' := 2) (ls' := [some (.int 4), some (.ref 3), some (.int 4), none]) (st' := []) rfl rfl rfl rfl ?_
    refine ax_s (pc' := 3) (st' := [.int 0]) rfl rfl rfl rfl ?_
    refine ax_s (pc' := 4) (ls' := [some (.int 4), some (.ref 3), some (.int 4), some (.int 0)]) (st' := []) rfl rfl rfl rfl ?_
    refine ax_s (pc' := 5) (st' := [.int 0]) rfl rfl rfl rfl ?_
    refine ax_s (pc' := 6) (st' := [.int 5, .int 0]) rfl rfl rfl rfl ?_
    refine ax_cmp_gt rfl (fun c16 => False.elim (by revert c16; decide)) (fun c16 => ?_)
    refine ax_s (pc' := 10) (st' := [.int 4]) rfl rfl rfl rfl ?_
    refine ax_call (vs := [.int 4]) (rr := []) rfl rfl rfl ?_
    refine ax_in (ls := [some (.int 4)]) rfl ?_
    refine ax_s (pc' := 1) (st' := [.int 4]) rfl rfl rfl rfl ?_
    refine ax_if_lt rfl (fun c17 => False.elim (by revert c17; decide)) (fun c17 => ?_)
    refine ax_s (pc' := 5) (st' := [.int 4]) rfl rfl rfl rfl ?_
    refine ax_s (pc' := 6) (st' := [.int 5, .int 4]) rfl rfl rfl rfl ?_
    refine ax_cmp_gt rfl (fun c18 => False.elim (by revert c18; decide)) (fun c18 => ?_)
    refine ax_s (pc' := 10) (st' := [.int 1]) rfl rfl rfl rfl ?_
    refine ax_s (pc' := 14) (st' := [.int 1]) rfl rfl rfl rfl ?_
    refine ax_rb (b := true) rfl rfl ?_
    show am_ex (d + 25) 138 13 [some (.int 4), some (.ref 3), some (.int 4), some (.int 0)] [.int 1] (am_hh X (am_u (am_u (am_u (am_u (am_u S 283 2 0) 284 0 23) 283 2 1) 284 1 20) 283 2 2) L) _
    refine ax_if_eq rfl (fun c19 => False.elim (by revert c19; decide)) (fun c19 => ?_)
    refine ax_s (pc' := 17) (st' := [.ref 3]) rfl rfl rfl rfl ?_
    refine ax_s (pc' := 18) (st' := [.int 4, .ref 3]) rfl rfl rfl rfl ?_
    refine ax_ald (j := 4) (v := 13) rfl (hh_s3 _ _ _) rfl rfl (by decide) (by decide) rfl ?_
    refine ax_s (pc' := 21) (st' := [.int (-1000000), .int 13]) rfl rfl rfl rfl ?_
    refine ax_cmp_eq rfl (fun c20 => False.elim (by revert c20; decide)) (fun c20 => ?_)
    refine ax_s (pc' := 25) (st' := [.ref 3]) rfl rfl rfl rfl ?_
    refine ax_s (pc' := 26) (st' := [.int 4, .ref 3]) rfl rfl rfl rfl ?_
    refine ax_ald (j := 4) (v := 13) rfl (hh_s3 _ _ _) rfl rfl (by decide) (by decide) rfl ?_
    refine ax_r rfl rfl rfl ?_
    show am_ex (d + 26) 137 26 [some (.ref 283), some (.int (nI j)), some (.int 0), some (.int 1)] [.int 13, .ref 283] (am_hh X (am_u (am_u (am_u (am_u (am_u S 283 2 0) 284 0 23) 283 2 1) 284 1 20) 283 2 2) L) _
    refine ax_s (pc' := 27) (st' := [.int (nI j), .int 13, .ref 283]) rfl rfl rfl rfl ?_
    refine ax_s (pc' := 28) (st' := [.int 1, .int (nI j), .int 13, .ref 283]) rfl rfl rfl rfl ?_
    refine ax_call (vs := [.ref 283, .int 13, .int (nI j), .int 1]) (rr := []) rfl rfl rfl ?_
    refine ax_in (ls := [some (.ref 283), some (.int 13), some (.int (nI j)), some (.int 1), none]) rfl ?_
    refine ax_s (pc' := 1) (st' := [.int 1]) rfl rfl rfl rfl ?_
    refine ax_s (pc' := 3) (st' := [.int 16, .int 1]) rfl rfl rfl rfl ?_
    refine ax_cmp_le rfl (fun c21 => ?_) (fun c21 => False.elim (by revert c21; decide))
    refine ax_s (pc' := 10) (st' := [.ref 283]) rfl rfl rfl rfl ?_
    refine ax_s (pc' := 11) (st' := [.int 13, .ref 283]) rfl rfl rfl rfl ?_
    refine ax_call (vs := [.ref 283, .int 13]) (rr := []) rfl rfl rfl ?_
    refine ax_in (ls := [some (.ref 283), some (.int 13)]) rfl ?_
    refine ax_s (pc' := 1) (st' := [.ref 283]) rfl rfl rfl rfl ?_
    refine ax_get rfl (hh_283 _ _ _) rfl rfl rfl ?_
    show am_ex (d + 24) 140 4 [some (.ref 283), some (.int 13)] [.int 2] (am_hh X (am_u (am_u (am_u (am_u (am_u S 283 2 0) 284 0 23) 283 2 1) 284 1 20) 283 2 2) L) _
    refine ax_if_lt rfl (fun c22 => False.elim (by revert c22; decide)) (fun c22 => ?_)
    refine ax_s (pc' := 8) (st' := [.ref 283]) rfl rfl rfl rfl ?_
    refine ax_get rfl (hh_283 _ _ _) rfl rfl rfl ?_
    show am_ex (d + 24) 140 11 [some (.ref 283), some (.int 13)] [.int 2] (am_hh X (am_u (am_u (am_u (am_u (am_u S 283 2 0) 284 0 23) 283 2 1) 284 1 20) 283 2 2) L) _
    refine ax_s (pc' := 13) (st' := [.int 16, .int 2]) rfl rfl rfl rfl ?_
    refine ax_cmp_ge rfl (fun c23 => False.elim (by revert c23; decide)) (fun c23 => ?_)
    refine ax_s (pc' := 17) (st' := [.ref 283]) rfl rfl rfl rfl ?_
    refine ax_get rfl (hh_283 _ _ _) rfl rfl rfl ?_
    show am_ex (d + 24) 140 20 [some (.ref 283), some (.int 13)] [.ref 284] (am_hh X (am_u (am_u (am_u (am_u (am_u S 283 2 0) 284 0 23) 283 2 1) 284 1 20) 283 2 2) L) _
    refine ax_s (pc' := 21) (st' := [.ref 283, .ref 284]) rfl rfl rfl rfl ?_
    refine ax_get rfl (hh_283 _ _ _) rfl rfl rfl ?_
    show am_ex (d + 24) 140 24 [some (.ref 283), some (.int 13)] [.int 2, .ref 284] (am_hh X (am_u (am_u (am_u (am_u (am_u S 283 2 0) 284 0 23) 283 2 1) 284 1 20) 283 2 2) L) _
    refine ax_s (pc' := 25) (st' := [.int 13, .int 2, .ref 284]) rfl rfl rfl rfl ?_
    refine ax_ast (j := 2) rfl (hh_284 _ _ _) rfl rfl (by decide) (by decide) (am_hh_set _ _ _ 284 2 _ rfl) ?_
    refine ax_s (pc' := 27) (st' := [.ref 283]) rfl rfl rfl rfl ?_
    refine ax_s (pc' := 28) (st' := [.ref 283, .ref 283]) rfl rfl rfl rfl ?_
    refine ax_get rfl (hh_283 _ _ _) rfl rfl rfl ?_
    show am_ex (d + 24) 140 31 [some (.ref 283), some (.int 13)] [.int 2, .ref 283] (am_hh X (am_u (am_u (am_u (am_u (am_u (am_u S 283 2 0) 284 0 23) 283 2 1) 284 1 20) 283 2 2) 284 2 13) L) _
    refine ax_s (pc' := 32) (st' := [.int 1, .int 2, .ref 283]) rfl rfl rfl rfl ?_
    refine ax_s (pc' := 33) (st' := [.int 3, .ref 283]) rfl rfl rfl rfl ?_
    refine ax_put rfl (hh_283 _ _ _) rfl rfl (show 2 + 1 ≤ _ from Nat.le_of_ble_eq_true rfl) rfl (am_hh_set _ _ _ 283 2 _ rfl) ?_
    refine ax_r rfl rfl rfl ?_
    show am_ex (d + 25) 139 14 [some (.ref 283), some (.int 13), some (.int (nI j)), some (.int 1), none] [] (am_hh X (am_u (am_u (am_u (am_u (am_u (am_u (am_u S 283 2 0) 284 0 23) 283 2 1) 284 1 20) 283 2 2) 284 2 13) 283 2 3) L) _
    refine ax_s (pc' := 15) (st' := [.int 1]) rfl rfl rfl rfl ?_
    refine ax_s (pc' := 16) (st' := [.int 1, .int 1]) rfl rfl rfl rfl ?_
    refine ax_s (pc' := 17) (st' := [.int 2]) rfl rfl rfl rfl ?_
    refine ax_s (pc' := 19) (ls' := [some (.ref 283), some (.int 13), some (.int (nI j)), some (.int 1), some (.int 2)]) (st' := []) rfl rfl rfl rfl ?_
    refine ax_s (pc' := 20) (st' := [.int 13]) rfl rfl rfl rfl ?_
    refine ax_s (pc' := 137) (ls' := [some (.ref 283), some (.int 13), some (.int (nI j)), some (.int 1), some (.int 2)]) (st' := []) (h1 := (am_hh X (am_u (am_u (am_u (am_u (am_u (am_u (am_u S 283 2 0) 284 0 23) 283 2 1) 284 1 20) 283 2 2) 284 2 13) 283 2 3) L)) rfl rfl rfl rfl ?_
    refine ax_s (pc' := 138) (st' := [.ref 283]) rfl rfl rfl rfl ?_
    refine ax_s (pc' := 140) (st' := [.int 10, .ref 283]) rfl rfl rfl rfl ?_
    refine ax_s (pc' := 141) (st' := [.int (nI j), .int 10, .ref 283]) rfl rfl rfl rfl ?_
    refine ax_s (pc' := 143) (st' := [.int 2, .int (nI j), .int 10, .ref 283]) rfl rfl rfl rfl ?_
    refine ax_call (vs := [.ref 283, .int 10, .int (nI j), .int 2]) (rr := []) rfl rfl rfl ?_
    refine ax_in (ls := [some (.ref 283), some (.int 10), some (.int (nI j)), some (.int 2), none]) rfl ?_
    refine ax_s (pc' := 1) (st' := [.int 2]) rfl rfl rfl rfl ?_
    refine ax_s (pc' := 3) (st' := [.int 16, .int 2]) rfl rfl rfl rfl ?_
    refine ax_cmp_le rfl (fun c24 => ?_) (fun c24 => False.elim (by revert c24; decide))
    refine ax_s (pc' := 10) (st' := [.ref 283]) rfl rfl rfl rfl ?_
    refine ax_s (pc' := 11) (st' := [.int 10, .ref 283]) rfl rfl rfl rfl ?_
    refine ax_call (vs := [.ref 283, .int 10]) (rr := []) rfl rfl rfl ?_
    refine ax_in (ls := [some (.ref 283), some (.int 10)]) rfl ?_
    refine ax_s (pc' := 1) (st' := [.ref 283]) rfl rfl rfl rfl ?_
    refine ax_get rfl (hh_283 _ _ _) rfl rfl rfl ?_
    show am_ex (d + 23) 140 4 [some (.ref 283), some (.int 10)] [.int 3] (am_hh X (am_u (am_u (am_u (am_u (am_u (am_u (am_u S 283 2 0) 284 0 23) 283 2 1) 284 1 20) 283 2 2) 284 2 13) 283 2 3) L) _
    refine ax_if_lt rfl (fun c25 => False.elim (by revert c25; decide)) (fun c25 => ?_)
    refine ax_s (pc' := 8) (st' := [.ref 283]) rfl rfl rfl rfl ?_
    refine ax_get rfl (hh_283 _ _ _) rfl rfl rfl ?_
    show am_ex (d + 23) 140 11 [some (.ref 283), some (.int 10)] [.int 3] (am_hh X (am_u (am_u (am_u (am_u (am_u (am_u (am_u S 283 2 0) 284 0 23) 283 2 1) 284 1 20) 283 2 2) 284 2 13) 283 2 3) L) _
    refine ax_s (pc' := 13) (st' := [.int 16, .int 3]) rfl rfl rfl rfl ?_
    refine ax_cmp_ge rfl (fun c26 => False.elim (by revert c26; decide)) (fun c26 => ?_)
    refine ax_s (pc' := 17) (st' := [.ref 283]) rfl rfl rfl rfl ?_
    refine ax_get rfl (hh_283 _ _ _) rfl rfl rfl ?_
    show am_ex (d + 23) 140 20 [some (.ref 283), some (.int 10)] [.ref 284] (am_hh X (am_u (am_u (am_u (am_u (am_u (am_u (am_u S 283 2 0) 284 0 23) 283 2 1) 284 1 20) 283 2 2) 284 2 13) 283 2 3) L) _
    refine ax_s (pc' := 21) (st' := [.ref 283, .ref 284]) rfl rfl rfl rfl ?_
    refine ax_get rfl (hh_283 _ _ _) rfl rfl rfl ?_
    show am_ex (d + 23) 140 24 [some (.ref 283), some (.int 10)] [.int 3, .ref 284] (am_hh X (am_u (am_u (am_u (am_u (am_u (am_u (am_u S 283 2 0) 284 0 23) 283 2 1) 284 1 20) 283 2 2) 284 2 13) 283 2 3) L) _
    refine ax_s (pc' := 25) (st' := [.int 10, .int 3, .ref 284]) rfl rfl rfl rfl ?_
    refine ax_ast (j := 3) rfl (hh_284 _ _ _) rfl rfl (by decide) (by decide) (am_hh_set _ _ _ 284 3 _ rfl) ?_
    refine ax_s (pc' := 27) (st' := [.ref 283]) rfl rfl rfl rfl ?_
    refine ax_s (pc' := 28) (st' := [.ref 283, .ref 283]) rfl rfl rfl rfl ?_
    refine ax_get rfl (hh_283 _ _ _) rfl rfl rfl ?_
    show am_ex (d + 23) 140 31 [some (.ref 283), some (.int 10)] [.int 3, .ref 283] (am_hh X (am_u (am_u (am_u (am_u (am_u (am_u (am_u (am_u S 283 2 0) 284 0 23) 283 2 1) 284 1 20) 283 2 2) 284 2 13) 283 2 3) 284 3 10) L) _
    refine ax_s (pc' := 32) (st' := [.int 1, .int 3, .ref 283]) rfl rfl rfl rfl ?_
    refine ax_s (pc' := 33) (st' := [.int 4, .ref 283]) rfl rfl rfl rfl ?_
    refine ax_put rfl (hh_283 _ _ _) rfl rfl (show 2 + 1 ≤ _ from Nat.le_of_ble_eq_true rfl) rfl (am_hh_set _ _ _ 283 2 _ rfl) ?_
    refine ax_r rfl rfl rfl ?_
    show am_ex (d + 24) 139 14 [some (.ref 283), some (.int 10), some (.int (nI j)), some (.int 2), none] [] (am_hh X (am_u (am_u (am_u (am_u (am_u (am_u (am_u (am_u (am_u S 283 2 0) 284 0 23) 283 2 1) 284 1 20) 283 2 2) 284 2 13) 283 2 3) 284 3 10) 283 2 4) L) _
    refine ax_s (pc' := 15) (st' := [.int 2]) rfl rfl rfl rfl ?_
    refine ax_s (pc' := 16) (st' := [.int 1, .int 2]) rfl rfl rfl rfl ?_
    refine ax_s (pc' := 17) (st' := [.int 3]) rfl rfl rfl rfl ?_
    refine ax_s (pc' := 19) (ls' := [some (.ref 283), some (.int 10), some (.int (nI j)), some (.int 2), some (.int 3)]) (st' := []) rfl rfl rfl rfl ?_
    refine ax_s (pc' := 20) (st' := [.int 10]) rfl rfl rfl rfl ?_
    refine ax_s (pc' := 96) (ls' := [some (.ref 283), some (.int 10), some (.int (nI j)), some (.int 2), some (.int 3)]) (st' := []) (h1 := (am_hh X (am_u (am_u (am_u (am_u (am_u (am_u (am_u (am_u (am_u S 283 2 0) 284 0 23) 283 2 1) 284 1 20) 283 2 2) 284 2 13) 283 2 3) 284 3 10) 283 2 4) L)) rfl rfl rfl rfl ?_
    refine ax_s (pc' := 97) (st' := [.ref 283]) rfl rfl rfl rfl ?_
    refine ax_get rfl (hh_283 _ _ _) rfl rfl rfl ?_
    show am_ex (d + 24) 139 100 [some (.ref 283), some (.int 10), some (.int (nI j)), some (.int 2), some (.int 3)] [.ref 20] (am_hh X (am_u (am_u (am_u (am_u (am_u (am_u (am_u (am_u (am_u S 283 2 0) 284 0 23) 283 2 1) 284 1 20) 283 2 2) 284 2 13) 283 2 3) 284 3 10) 283 2 4) L) _
    refine ax_get rfl (hh_20 _ _ _) rfl rfl rfl ?_
    show am_ex (d + 24) 139 103 [some (.ref 283), some (.int 10), some (.int (nI j)), some (.int 2), some (.int 3)] [.ref 23] (am_hh X (am_u (am_u (am_u (am_u (am_u (am_u (am_u (am_u (am_u S 283 2 0) 284 0 23) 283 2 1) 284 1 20) 283 2 2) 284 2 13) 283 2 3) 284 3 10) 283 2 4) L) _
    refine ax_s (pc' := 104) (st' := [.int (nI j), .ref 23]) rfl rfl rfl rfl ?_
    refine ax_ald (j := j) (v := (S 23 j)) rfl (hh_23 _ _ _) rfl rfl (x1 c1) (by decide) rfl ?_
    refine ax_r rfl rfl rfl ?_
    show am_ex (d + 25) 139 146 [some (.ref 283), some (.int 13), some (.int (nI j)), some (.int 1), some (.int 2)] [.int (S 23 j)] (am_hh X (am_u (am_u (am_u (am_u (am_u (am_u (am_u (am_u (am_u S 283 2 0) 284 0 23) 283 2 1) 284 1 20) 283 2 2) 284 2 13) 283 2 3) 284 3 10) 283 2 4) L) _
    refine ax_s (pc' := 148) (st' := [.int 100, .int (S 23 j)]) rfl rfl rfl rfl ?_
    refine ax_s (pc' := 149) (st' := [.int ((S 23 j) - 100)]) rfl rfl rfl rfl ?_
    refine ax_r rfl rfl rfl ?_
    show am_ex (d + 26) 137 31 [some (.ref 283), some (.int (nI j)), some (.int 0), some (.int 1)] [.int ((S 23 j) - 100)] (am_hh X (am_u (am_u (am_u (am_u (am_u (am_u (am_u (am_u (am_u S 283 2 0) 284 0 23) 283 2 1) 284 1 20) 283 2 2) 284 2 13) 283 2 3) 284 3 10) 283 2 4) L) _
    refine ax_r rfl rfl rfl ?_
    show am_ex (d + 27) 139 215 [some (.ref 283), some (.int 23), some (.int (nI j)), some (.int 0), some (.int 1)] [.int ((S 23 j) - 100), .int (nI j)] (am_hh X (am_u (am_u (am_u (am_u (am_u (am_u (am_u (am_u (am_u S 283 2 0) 284 0 23) 283 2 1) 284 1 20) 283 2 2) 284 2 13) 283 2 3) 284 3 10) 283 2 4) L) _
    refine ax_s (pc' := 216) (st' := [.int ((nI j) - ((S 23 j) - 100))]) rfl rfl rfl rfl ?_
    refine ax_r rfl rfl rfl ?_
    show am_ex (d + 28) 137 31 [some (.ref 283), some (.int (nI j)), some (.int 1), some (.int 0)] [.int ((nI j) - ((S 23 j) - 100))] (am_hh X (am_u (am_u (am_u (am_u (am_u (am_u (am_u (am_u (am_u S 283 2 0) 284 0 23) 283 2 1) 284 1 20) 283 2 2) 284 2 13) 283 2 3) 284 3 10) 283 2 4) L) _
    refine ax_r rfl rfl rfl ?_
    show am_ex (d + 29) 238 12 [some (.ref 283), some (.int (nI j)), some (.int 1)] [.int ((nI j) - ((S 23 j) - 100))] (am_hh X (am_u (am_u (am_u (am_u (am_u (am_u (am_u (am_u (am_u S 283 2 0) 284 0 23) 283 2 1) 284 1 20) 283 2 2) 284 2 13) 283 2 3) 284 3 10) 283 2 4) L) _
    refine ax_r rfl rfl rfl ?_
    show am_ex (d + 30) 136 32 [some (.ref 5), some (.int (nI j)), some (.int 1)] [.int ((nI j) - ((S 23 j) - 100))] (am_hh X (am_u (am_u (am_u (am_u (am_u (am_u (am_u (am_u (am_u S 283 2 0) 284 0 23) 283 2 1) 284 1 20) 283 2 2) 284 2 13) 283 2 3) 284 3 10) 283 2 4) L) _
    refine ax_r rfl rfl rfl ?_
    exact k2 c1
theorem wm_ask_4_1 {d : Nat} {X : Nat × (Nat → Int32)} {S : Nat → Nat → Int32} {L : Nat → Int64} {j : Nat} {Q : Option Value → am_H → Prop} (hk : S 290 j = 4) (hj : j < 6)  (x1 : ¬ (nI j) < 0 ∧ ¬ (S 285 7) - 1 < (nI j) → j < 6) (k1 : ¬ (¬ (nI j) < 0 ∧ ¬ (S 285 7) - 1 < (nI j)) → Q (some (.int (-1000001))) (am_hh X S L)) (k2 : ¬ (nI j) < 0 ∧ ¬ (S 285 7) - 1 < (nI j) → Q (some (.int ((nI j) - ((S 291 j) - 100)))) (am_hh X (am_u (am_u (am_u (am_u (am_u (am_u (am_u (am_u (am_u S 285 20 0) 299 0 23) 285 20 1) 299 1 20) 285 20 2) 299 2 13) 285 20 3) 299 3 10) 285 20 4) L)) : am_mt (d + 10) 224 [.ref 285, .int (nI j), .int 1] (am_hh X S L) Q := by
  refine ax_in (ls := [some (.ref 285), some (.int (nI j)), some (.int 1)]) rfl ?_
  refine ax_s (pc' := 1) (st' := [.ref 285]) rfl rfl rfl rfl ?_
  refine ax_s (pc' := 2) (st' := [.int (nI j), .ref 285]) rfl rfl rfl rfl ?_
  refine ax_call (vs := [.ref 285, .int (nI j)]) (rr := []) rfl rfl rfl ?_
  refine mt_isParty  ?_
  show am_ex (d + 10) 224 5 [some (.ref 285), some (.int (nI j)), some (.int 1)] [.int (bI (decide (¬ (nI j) < 0 ∧ ¬ (S 285 7) - 1 < (nI j))))] (am_hh X S L) _
  refine ax_pF rfl (fun c1 => ?_) (fun c1 => ?_)
  · refine ax_s (pc' := 19) (st' := [.int (-1000001)]) rfl rfl rfl rfl ?_
    refine ax_r rfl rfl rfl ?_
    exact k1 c1
  · refine ax_s (pc' := 9) (st' := [.int 1]) rfl rfl rfl rfl ?_
    refine ax_s (pc' := 10) (st' := [.int 0, .int 1]) rfl rfl rfl rfl ?_
    refine ax_s (pc' := 11) (st' := [.int 1, .int 0, .int 1]) rfl rfl rfl rfl ?_
    refine ax_call (vs := [.int 1, .int 0, .int 1]) (rr := []) rfl rfl rfl ?_
    refine mt_in ?_
    show am_ex (d + 10) 224 14 [some (.ref 285), some (.int (nI j)), some (.int 1)] [.int 1] (am_hh X S L) _
    refine ax_if_ne rfl (fun c2 => ?_) (fun c2 => False.elim (by revert c2; decide))
    refine ax_s (pc' := 21) (st' := [.ref 285]) rfl rfl rfl rfl ?_
    refine ax_s (pc' := 22) (st' := [.int 0, .ref 285]) rfl rfl rfl rfl ?_
    refine ax_put rfl (hh_285 _ _ _) rfl rfl (show 20 + 1 ≤ _ from Nat.le_of_ble_eq_true rfl) rfl (am_hh_set _ _ _ 285 20 _ rfl) ?_
    refine ax_s (pc' := 26) (st' := [.ref 285]) rfl rfl rfl rfl ?_
    refine ax_get rfl (hh_285 _ _ _) rfl rfl rfl ?_
    show am_ex (d + 10) 224 29 [some (.ref 285), some (.int (nI j)), some (.int 1)] [.ref 290] (am_hh X (am_u S 285 20 0) L) _
    refine ax_s (pc' := 30) (st' := [.int (nI j), .ref 290]) rfl rfl rfl rfl ?_
    refine ax_ald (j := j) (v := 4) rfl (hh_290 _ _ _) rfl rfl (x1 c1) (by decide) hk ?_
    refine ax_s (pc' := 32) (st' := [.int 4, .int 4]) rfl rfl rfl rfl ?_
    refine ax_cmp_ge rfl (fun c3 => ?_) (fun c3 => False.elim (by revert c3; decide))
    refine ax_s (pc' := 54) (st' := [.int 1]) rfl rfl rfl rfl ?_
    refine ax_if_ne rfl (fun c4 => ?_) (fun c4 => False.elim (by revert c4; decide))
    refine ax_s (pc' := 66) (st' := [.ref 285]) rfl rfl rfl rfl ?_
    refine ax_s (pc' := 67) (st' := [.int (nI j), .ref 285]) rfl rfl rfl rfl ?_
    refine ax_call (vs := [.ref 285, .int (nI j)]) (rr := []) rfl rfl rfl ?_
    refine ax_in (ls := [some (.ref 285), some (.int (nI j)), none]) rfl ?_
    refine ax_s (pc' := 1) (st' := [.ref 285]) rfl rfl rfl rfl ?_
    refine ax_s (pc' := 3) (st' := [.int 23, .ref 285]) rfl rfl rfl rfl ?_
    refine ax_call (vs := [.ref 285, .int 23]) (rr := []) rfl rfl rfl ?_
    refine ax_in (ls := [some (.ref 285), some (.int 23)]) rfl ?_
    refine ax_s (pc' := 1) (st' := [.ref 285]) rfl rfl rfl rfl ?_
    refine ax_get rfl (hh_285 _ _ _) rfl rfl rfl ?_
    show am_ex (d + 8) 226 4 [some (.ref 285), some (.int 23)] [.int 0] (am_hh X (am_u S 285 20 0) L) _
    refine ax_s (pc' := 6) (st' := [.int 16, .int 0]) rfl rfl rfl rfl ?_
    refine ax_cmp_ge rfl (fun c5 => False.elim (by revert c5; decide)) (fun c5 => ?_)
    refine ax_s (pc' := 10) (st' := [.ref 285]) rfl rfl rfl rfl ?_
    refine ax_get rfl (hh_285 _ _ _) rfl rfl rfl ?_
    show am_ex (d + 8) 226 13 [some (.ref 285), some (.int 23)] [.ref 299] (am_hh X (am_u S 285 20 0) L) _
    refine ax_s (pc' := 14) (st' := [.ref 285, .ref 299]) rfl rfl rfl rfl ?_
    refine ax_get rfl (hh_285 _ _ _) rfl rfl rfl ?_
    show am_ex (d + 8) 226 17 [some (.ref 285), some (.int 23)] [.int 0, .ref 299] (am_hh X (am_u S 285 20 0) L) _
    refine ax_s (pc' := 18) (st' := [.int 23, .int 0, .ref 299]) rfl rfl rfl rfl ?_
    refine ax_ast (j := 0) rfl (hh_299 _ _ _) rfl rfl (by decide) (by decide) (am_hh_set _ _ _ 299 0 _ rfl) ?_
    refine ax_s (pc' := 20) (st' := [.ref 285]) rfl rfl rfl rfl ?_
    refine ax_s (pc' := 21) (st' := [.ref 285, .ref 285]) rfl rfl rfl rfl ?_
    refine ax_get rfl (hh_285 _ _ _) rfl rfl rfl ?_
    show am_ex (d + 8) 226 24 [some (.ref 285), some (.int 23)] [.int 0, .ref 285] (am_hh X (am_u (am_u S 285 20 0) 299 0 23) L) _
    refine ax_s (pc' := 25) (st' := [.int 1, .int 0, .ref 285]) rfl rfl rfl rfl ?_
    refine ax_s (pc' := 26) (st' := [.int 1, .ref 285]) rfl rfl rfl rfl ?_
    refine ax_put rfl (hh_285 _ _ _) rfl rfl (show 20 + 1 ≤ _ from Nat.le_of_ble_eq_true rfl) rfl (am_hh_set _ _ _ 285 20 _ rfl) ?_
    refine ax_r rfl rfl rfl ?_
    show am_ex (d + 9) 232 6 [some (.ref 285), some (.int (nI j)), none] [] (am_hh X (am_u (am_u (am_u S 285 20 0) 299 0 23) 285 20 1) L) _
    refine ax_s (pc' := 7) (st' := [.ref 285]) rfl rfl rfl rfl ?_
    refine ax_s (pc' := 8) (st' := [.int (nI j), .ref 285]) rfl rfl rfl rfl ?_
    refine ax_call (vs := [.ref 285, .int (nI j)]) (rr := []) rfl rfl rfl ?_
    refine ax_in (ls := [some (.ref 285), some (.int (nI j))]) rfl ?_
    refine ax_s (pc' := 1) (st' := [.ref 285]) rfl rfl rfl rfl ?_
    refine ax_s (pc' := 3) (st' := [.int 20, .ref 285]) rfl rfl rfl rfl ?_
    refine ax_call (vs := [.ref 285, .int 20]) (rr := []) rfl rfl rfl ?_
    refine ax_in (ls := [some (.ref 285), some (.int 20)]) rfl ?_
    refine ax_s (pc' := 1) (st' := [.ref 285]) rfl rfl rfl rfl ?_
    refine ax_get rfl (hh_285 _ _ _) rfl rfl rfl ?_
    show am_ex (d + 7) 226 4 [some (.ref 285), some (.int 20)] [.int 1] (am_hh X (am_u (am_u (am_u S 285 20 0) 299 0 23) 285 20 1) L) _
    refine ax_s (pc' := 6) (st' := [.int 16, .int 1]) rfl rfl rfl rfl ?_
    refine ax_cmp_ge rfl (fun c6 => False.elim (by revert c6; decide)) (fun c6 => ?_)
    refine ax_s (pc' := 10) (st' := [.ref 285]) rfl rfl rfl rfl ?_
    refine ax_get rfl (hh_285 _ _ _) rfl rfl rfl ?_
    show am_ex (d + 7) 226 13 [some (.ref 285), some (.int 20)] [.ref 299] (am_hh X (am_u (am_u (am_u S 285 20 0) 299 0 23) 285 20 1) L) _
    refine ax_s (pc' := 14) (st' := [.ref 285, .ref 299]) rfl rfl rfl rfl ?_
    refine ax_get rfl (hh_285 _ _ _) rfl rfl rfl ?_
    show am_ex (d + 7) 226 17 [some (.ref 285), some (.int 20)] [.int 1, .ref 299] (am_hh X (am_u (am_u (am_u S 285 20 0) 299 0 23) 285 20 1) L) _
    refine ax_s (pc' := 18) (st' := [.int 20, .int 1, .ref 299]) rfl rfl rfl rfl ?_
    refine ax_ast (j := 1) rfl (hh_299 _ _ _) rfl rfl (by decide) (by decide) (am_hh_set _ _ _ 299 1 _ rfl) ?_
    refine ax_s (pc' := 20) (st' := [.ref 285]) rfl rfl rfl rfl ?_
    refine ax_s (pc' := 21) (st' := [.ref 285, .ref 285]) rfl rfl rfl rfl ?_
    refine ax_get rfl (hh_285 _ _ _) rfl rfl rfl ?_
    show am_ex (d + 7) 226 24 [some (.ref 285), some (.int 20)] [.int 1, .ref 285] (am_hh X (am_u (am_u (am_u (am_u S 285 20 0) 299 0 23) 285 20 1) 299 1 20) L) _
    refine ax_s (pc' := 25) (st' := [.int 1, .int 1, .ref 285]) rfl rfl rfl rfl ?_
    refine ax_s (pc' := 26) (st' := [.int 2, .ref 285]) rfl rfl rfl rfl ?_
    refine ax_put rfl (hh_285 _ _ _) rfl rfl (show 20 + 1 ≤ _ from Nat.le_of_ble_eq_true rfl) rfl (am_hh_set _ _ _ 285 20 _ rfl) ?_
    refine ax_r rfl rfl rfl ?_
    show am_ex (d + 8) 230 6 [some (.ref 285), some (.int (nI j))] [] (am_hh X (am_u (am_u (am_u (am_u (am_u S 285 20 0) 299 0 23) 285 20 1) 299 1 20) 285 20 2) L) _
    refine ax_s (pc' := 7) (st' := [.int (nI j)]) rfl rfl rfl rfl ?_
    refine ax_r rfl rfl rfl ?_
    show am_ex (d + 9) 232 11 [some (.ref 285), some (.int (nI j)), none] [.int (nI j)] (am_hh X (am_u (am_u (am_u (am_u (am_u S 285 20 0) 299 0 23) 285 20 1) 299 1 20) 285 20 2) L) _
    refine ax_s (pc' := 12) (ls' := [some (.ref 285), some (.int (nI j)), some (.int (nI j))]) (st' := []) rfl rfl rfl rfl ?_
    refine ax_s (pc' := 13) (st' := [.int (nI j)]) rfl rfl rfl rfl ?_
    refine ax_s (pc' := 14) (st' := [.ref 285, .int (nI j)]) rfl rfl rfl rfl ?_
    refine ax_s (pc' := 15) (st' := [.int (nI j), .ref 285, .int (nI j)]) rfl rfl rfl rfl ?_
    refine ax_call (vs := [.ref 285, .int (nI j)]) (rr := [.int (nI j)]) rfl rfl rfl ?_
    refine ax_in (ls := [some (.ref 285), some (.int (nI j)), none]) rfl ?_
    refine ax_s (pc' := 1) (st' := [.ref 285]) rfl rfl rfl rfl ?_
    refine ax_get rfl (hh_285 _ _ _) rfl rfl rfl ?_
    show am_ex (d + 8) 231 4 [some (.ref 285), some (.int (nI j)), none] [.ref 290] (am_hh X (am_u (am_u (am_u (am_u (am_u S 285 20 0) 299 0 23) 285 20 1) 299 1 20) 285 20 2) L) _
    refine ax_s (pc' := 5) (st' := [.int (nI j), .ref 290]) rfl rfl rfl rfl ?_
    refine ax_ald (j := j) (v := 4) rfl (hh_290 _ _ _) rfl rfl (x1 c1) (by decide) hk ?_
    refine ax_s (pc' := 7) (st' := [.int 5, .int 4]) rfl rfl rfl rfl ?_
    refine ax_cmp_ne rfl (fun c7 => ?_) (fun c7 => False.elim (by revert c7; decide))
    refine ax_s (pc' := 17) (st' := [.ref 285]) rfl rfl rfl rfl ?_
    refine ax_s (pc' := 19) (st' := [.int 13, .ref 285]) rfl rfl rfl rfl ?_
    refine ax_call (vs := [.ref 285, .int 13]) (rr := []) rfl rfl rfl ?_
    refine ax_in (ls := [some (.ref 285), some (.int 13)]) rfl ?_
    refine ax_s (pc' := 1) (st' := [.ref 285]) rfl rfl rfl rfl ?_
    refine ax_get rfl (hh_285 _ _ _) rfl rfl rfl ?_
    show am_ex (d + 7) 226 4 [some (.ref 285), some (.int 13)] [.int 2] (am_hh X (am_u (am_u (am_u (am_u (am_u S 285 20 0) 299 0 23) 285 20 1) 299 1 20) 285 20 2) L) _
    refine ax_s (pc' := 6) (st' := [.int 16, .int 2]) rfl rfl rfl rfl ?_
    refine ax_cmp_ge rfl (fun c8 => False.elim (by revert c8; decide)) (fun c8 => ?_)
    refine ax_s (pc' := 10) (st' := [.ref 285]) rfl rfl rfl rfl ?_
    refine ax_get rfl (hh_285 _ _ _) rfl rfl rfl ?_
    show am_ex (d + 7) 226 13 [some (.ref 285), some (.int 13)] [.ref 299] (am_hh X (am_u (am_u (am_u (am_u (am_u S 285 20 0) 299 0 23) 285 20 1) 299 1 20) 285 20 2) L) _
    refine ax_s (pc' := 14) (st' := [.ref 285, .ref 299]) rfl rfl rfl rfl ?_
    refine ax_get rfl (hh_285 _ _ _) rfl rfl rfl ?_
    show am_ex (d + 7) 226 17 [some (.ref 285), some (.int 13)] [.int 2, .ref 299] (am_hh X (am_u (am_u (am_u (am_u (am_u S 285 20 0) 299 0 23) 285 20 1) 299 1 20) 285 20 2) L) _
    refine ax_s (pc' := 18) (st' := [.int 13, .int 2, .ref 299]) rfl rfl rfl rfl ?_
    refine ax_ast (j := 2) rfl (hh_299 _ _ _) rfl rfl (by decide) (by decide) (am_hh_set _ _ _ 299 2 _ rfl) ?_
    refine ax_s (pc' := 20) (st' := [.ref 285]) rfl rfl rfl rfl ?_
    refine ax_s (pc' := 21) (st' := [.ref 285, .ref 285]) rfl rfl rfl rfl ?_
    refine ax_get rfl (hh_285 _ _ _) rfl rfl rfl ?_
    show am_ex (d + 7) 226 24 [some (.ref 285), some (.int 13)] [.int 2, .ref 285] (am_hh X (am_u (am_u (am_u (am_u (am_u (am_u S 285 20 0) 299 0 23) 285 20 1) 299 1 20) 285 20 2) 299 2 13) L) _
    refine ax_s (pc' := 25) (st' := [.int 1, .int 2, .ref 285]) rfl rfl rfl rfl ?_
    refine ax_s (pc' := 26) (st' := [.int 3, .ref 285]) rfl rfl rfl rfl ?_
    refine ax_put rfl (hh_285 _ _ _) rfl rfl (show 20 + 1 ≤ _ from Nat.le_of_ble_eq_true rfl) rfl (am_hh_set _ _ _ 285 20 _ rfl) ?_
    refine ax_r rfl rfl rfl ?_
    show am_ex (d + 8) 231 22 [some (.ref 285), some (.int (nI j)), none] [] (am_hh X (am_u (am_u (am_u (am_u (am_u (am_u (am_u S 285 20 0) 299 0 23) 285 20 1) 299 1 20) 285 20 2) 299 2 13) 285 20 3) L) _
    refine ax_s (pc' := 23) (st' := [.ref 285]) rfl rfl rfl rfl ?_
    refine ax_s (pc' := 24) (st' := [.int (nI j), .ref 285]) rfl rfl rfl rfl ?_
    refine ax_call (vs := [.ref 285, .int (nI j)]) (rr := []) rfl rfl rfl ?_
    refine ax_in (ls := [some (.ref 285), some (.int (nI j))]) rfl ?_
    refine ax_s (pc' := 1) (st' := [.ref 285]) rfl rfl rfl rfl ?_
    refine ax_s (pc' := 3) (st' := [.int 10, .ref 285]) rfl rfl rfl rfl ?_
    refine ax_call (vs := [.ref 285, .int 10]) (rr := []) rfl rfl rfl ?_
    refine ax_in (ls := [some (.ref 285), some (.int 10)]) rfl ?_
    refine ax_s (pc' := 1) (st' := [.ref 285]) rfl rfl rfl rfl ?_
    refine ax_get rfl (hh_285 _ _ _) rfl rfl rfl ?_
    show am_ex (d + 6) 226 4 [some (.ref 285), some (.int 10)] [.int 3] (am_hh X (am_u (am_u (am_u (am_u (am_u (am_u (am_u S 285 20 0) 299 0 23) 285 20 1) 299 1 20) 285 20 2) 299 2 13) 285 20 3) L) _
    refine ax_s (pc' := 6) (st' := [.int 16, .int 3]) rfl rfl rfl rfl ?_
    refine ax_cmp_ge rfl (fun c9 => False.elim (by revert c9; decide)) (fun c9 => ?_)
    refine ax_s (pc' := 10) (st' := [.ref 285]) rfl rfl rfl rfl ?_
    refine ax_get rfl (hh_285 _ _ _) rfl rfl rfl ?_
    show am_ex (d + 6) 226 13 [some (.ref 285), some (.int 10)] [.ref 299] (am_hh X (am_u (am_u (am_u (am_u (am_u (am_u (am_u S 285 20 0) 299 0 23) 285 20 1) 299 1 20) 285 20 2) 299 2 13) 285 20 3) L) _
    refine ax_s (pc' := 14) (st' := [.ref 285, .ref 299]) rfl rfl rfl rfl ?_
    refine ax_get rfl (hh_285 _ _ _) rfl rfl rfl ?_
    show am_ex (d + 6) 226 17 [some (.ref 285), some (.int 10)] [.int 3, .ref 299] (am_hh X (am_u (am_u (am_u (am_u (am_u (am_u (am_u S 285 20 0) 299 0 23) 285 20 1) 299 1 20) 285 20 2) 299 2 13) 285 20 3) L) _
    refine ax_s (pc' := 18) (st' := [.int 10, .int 3, .ref 299]) rfl rfl rfl rfl ?_
    refine ax_ast (j := 3) rfl (hh_299 _ _ _) rfl rfl (by decide) (by decide) (am_hh_set _ _ _ 299 3 _ rfl) ?_
    refine ax_s (pc' := 20) (st' := [.ref 285]) rfl rfl rfl rfl ?_
    refine ax_s (pc' := 21) (st' := [.ref 285, .ref 285]) rfl rfl rfl rfl ?_
    refine ax_get rfl (hh_285 _ _ _) rfl rfl rfl ?_
    show am_ex (d + 6) 226 24 [some (.ref 285), some (.int 10)] [.int 3, .ref 285] (am_hh X (am_u (am_u (am_u (am_u (am_u (am_u (am_u (am_u S 285 20 0) 299 0 23) 285 20 1) 299 1 20) 285 20 2) 299 2 13) 285 20 3) 299 3 10) L) _
    refine ax_s (pc' := 25) (st' := [.int 1, .int 3, .ref 285]) rfl rfl rfl rfl ?_
    refine ax_s (pc' := 26) (st' := [.int 4, .ref 285]) rfl rfl rfl rfl ?_
    refine ax_put rfl (hh_285 _ _ _) rfl rfl (show 20 + 1 ≤ _ from Nat.le_of_ble_eq_true rfl) rfl (am_hh_set _ _ _ 285 20 _ rfl) ?_
    refine ax_r rfl rfl rfl ?_
    show am_ex (d + 7) 227 6 [some (.ref 285), some (.int (nI j))] [] (am_hh X (am_u (am_u (am_u (am_u (am_u (am_u (am_u (am_u (am_u S 285 20 0) 299 0 23) 285 20 1) 299 1 20) 285 20 2) 299 2 13) 285 20 3) 299 3 10) 285 20 4) L) _
    refine ax_s (pc' := 7) (st' := [.ref 285]) rfl rfl rfl rfl ?_
    refine ax_get rfl (hh_285 _ _ _) rfl rfl rfl ?_
    show am_ex (d + 7) 227 10 [some (.ref 285), some (.int (nI j))] [.ref 291] (am_hh X (am_u (am_u (am_u (am_u (am_u (am_u (am_u (am_u (am_u S 285 20 0) 299 0 23) 285 20 1) 299 1 20) 285 20 2) 299 2 13) 285 20 3) 299 3 10) 285 20 4) L) _
    refine ax_s (pc' := 11) (st' := [.int (nI j), .ref 291]) rfl rfl rfl rfl ?_
    refine ax_ald (j := j) (v := (S 291 j)) rfl (hh_291 _ _ _) rfl rfl (x1 c1) (by decide) rfl ?_
    refine ax_r rfl rfl rfl ?_
    show am_ex (d + 8) 231 27 [some (.ref 285), some (.int (nI j)), none] [.int (S 291 j)] (am_hh X (am_u (am_u (am_u (am_u (am_u (am_u (am_u (am_u (am_u S 285 20 0) 299 0 23) 285 20 1) 299 1 20) 285 20 2) 299 2 13) 285 20 3) 299 3 10) 285 20 4) L) _
    refine ax_s (pc' := 29) (st' := [.int 100, .int (S 291 j)]) rfl rfl rfl rfl ?_
    refine ax_s (pc' := 30) (st' := [.int ((S 291 j) - 100)]) rfl rfl rfl rfl ?_
    refine ax_s (pc' := 31) (ls' := [some (.ref 285), some (.int (nI j)), some (.int ((S 291 j) - 100))]) (st' := []) rfl rfl rfl rfl ?_
    refine ax_s (pc' := 32) (st' := [.ref 285]) rfl rfl rfl rfl ?_
    refine ax_get rfl (hh_285 _ _ _) rfl rfl rfl ?_
    show am_ex (d + 8) 231 35 [some (.ref 285), some (.int (nI j)), some (.int ((S 291 j) - 100))] [.ref 290] (am_hh X (am_u (am_u (am_u (am_u (am_u (am_u (am_u (am_u (am_u S 285 20 0) 299 0 23) 285 20 1) 299 1 20) 285 20 2) 299 2 13) 285 20 3) 299 3 10) 285 20 4) L) _
    refine ax_s (pc' := 36) (st' := [.int (nI j), .ref 290]) rfl rfl rfl rfl ?_
    refine ax_ald (j := j) (v := 4) rfl (hh_290 _ _ _) rfl rfl (x1 c1) (by decide) hk ?_
    refine ax_s (pc' := 38) (st' := [.int 5, .int 4]) rfl rfl rfl rfl ?_
    refine ax_cmp_ne rfl (fun c10 => ?_) (fun c10 => False.elim (by revert c10; decide))
    refine ax_s (pc' := 48) (st' := [.int ((S 291 j) - 100)]) rfl rfl rfl rfl ?_
    refine ax_r rfl rfl rfl ?_
    show am_ex (d + 9) 232 18 [some (.ref 285), some (.int (nI j)), some (.int (nI j))] [.int ((S 291 j) - 100), .int (nI j)] (am_hh X (am_u (am_u (am_u (am_u (am_u (am_u (am_u (am_u (am_u S 285 20 0) 299 0 23) 285 20 1) 299 1 20) 285 20 2) 299 2 13) 285 20 3) 299 3 10) 285 20 4) L) _
    refine ax_s (pc' := 19) (st' := [.int ((nI j) - ((S 291 j) - 100))]) rfl rfl rfl rfl ?_
    refine ax_r rfl rfl rfl ?_
    show am_ex (d + 10) 224 70 [some (.ref 285), some (.int (nI j)), some (.int 1)] [.int ((nI j) - ((S 291 j) - 100))] (am_hh X (am_u (am_u (am_u (am_u (am_u (am_u (am_u (am_u (am_u S 285 20 0) 299 0 23) 285 20 1) 299 1 20) 285 20 2) 299 2 13) 285 20 3) 299 3 10) 285 20 4) L) _
    refine ax_r rfl rfl rfl ?_
    exact k2 c1
theorem wk_ask_5_0 {d : Nat} {X : Nat × (Nat → Int32)} {S : Nat → Nat → Int32} {L : Nat → Int64} {j : Nat} {Q : Option Value → am_H → Prop} (hk : S 22 j = 5) (hj : j < 6)  (x1 : ¬ (nI j) < 0 ∧ ¬ (S 20 4) ≤ (nI j) → j < 6) (k1 : ¬ (¬ (nI j) < 0 ∧ ¬ (S 20 4) ≤ (nI j)) → Q (some (.int (-1000001))) (am_hh X S L)) (k2 : ¬ (nI j) < 0 ∧ ¬ (S 20 4) ≤ (nI j) → Q (some (.int (2 * ((S 23 j) - 100)))) (am_hh X (am_u (am_u (am_u (am_u (am_u (am_u (am_u S 283 2 0) 284 0 14) 283 2 1) 284 1 13) 283 2 2) 284 2 10) 283 2 3) L)) : am_mt (d + 30) 136 [.ref 5, .int (nI j), .int 0] (am_hh X S L) Q := by
  refine ax_in (ls := [some (.ref 5), some (.int (nI j)), some (.int 0)]) rfl ?_
  refine ax_s (pc' := 1) (st' := [.ref 5]) rfl rfl rfl rfl ?_
  refine ax_get rfl (hh_5 _ _ _) rfl rfl rfl ?_
  show am_ex (d + 30) 136 4 [some (.ref 5), some (.int (nI j)), some (.int 0)] [.ref 20] (am_hh X S L) _
  refine ax_s (pc' := 5) (st' := [.int (nI j), .ref 20]) rfl rfl rfl rfl ?_
  refine ax_call (vs := [.ref 20, .int (nI j)]) (rr := []) rfl rfl rfl ?_
  refine kw (am_hh_sub isW20 X S L) (am_hh_sub isW20 X S L).symm (fun _ => ct_hasParty (am_isW_k isW20 X S L)) ?_
  show am_ex (d + 30) 136 8 [some (.ref 5), some (.int (nI j)), some (.int 0)] [.int (bI (decide (¬ (nI j) < 0 ∧ ¬ (S 20 4) ≤ (nI j))))] (am_hh X S L) _
  refine ax_pF rfl (fun c1 => ?_) (fun c1 => ?_)
  · refine ax_s (pc' := 22) (st' := [.int (-1000001)]) rfl rfl rfl rfl ?_
    refine ax_r rfl rfl rfl ?_
    exact k1 c1
  · refine ax_s (pc' := 12) (st' := [.int 0]) rfl rfl rfl rfl ?_
    refine ax_s (pc' := 13) (st' := [.int 0, .int 0]) rfl rfl rfl rfl ?_
    refine ax_s (pc' := 14) (st' := [.int 1, .int 0, .int 0]) rfl rfl rfl rfl ?_
    refine ax_call (vs := [.int 0, .int 0, .int 1]) (rr := []) rfl rfl rfl ?_
    refine ct_isOutside ?_
    show am_ex (d + 30) 136 17 [some (.ref 5), some (.int (nI j)), some (.int 0)] [.int 0] (am_hh X S L) _
    refine ax_if_eq rfl (fun c2 => ?_) (fun c2 => False.elim (by revert c2; decide))
    refine ax_s (pc' := 24) (st' := [.ref 5]) rfl rfl rfl rfl ?_
    refine ax_get rfl (hh_5 _ _ _) rfl rfl rfl ?_
    show am_ex (d + 30) 136 27 [some (.ref 5), some (.int (nI j)), some (.int 0)] [.ref 283] (am_hh X S L) _
    refine ax_s (pc' := 28) (st' := [.int (nI j), .ref 283]) rfl rfl rfl rfl ?_
    refine ax_s (pc' := 29) (st' := [.int 0, .int (nI j), .ref 283]) rfl rfl rfl rfl ?_
    refine ax_call (vs := [.ref 283, .int (nI j), .int 0]) (rr := []) rfl rfl rfl ?_
    refine ax_in (ls := [some (.ref 283), some (.int (nI j)), some (.int 0)]) rfl ?_
    refine ax_s (pc' := 1) (st' := [.ref 283]) rfl rfl rfl rfl ?_
    refine ax_s (pc' := 2) (st' := [.int 0, .ref 283]) rfl rfl rfl rfl ?_
    refine ax_put rfl (hh_283 _ _ _) rfl rfl (show 2 + 1 ≤ _ from Nat.le_of_ble_eq_true rfl) rfl (am_hh_set _ _ _ 283 2 _ rfl) ?_
    refine ax_s (pc' := 6) (st' := [.ref 283]) rfl rfl rfl rfl ?_
    refine ax_s (pc' := 7) (st' := [.int (nI j), .ref 283]) rfl rfl rfl rfl ?_
    refine ax_s (pc' := 8) (st' := [.int 0, .int (nI j), .ref 283]) rfl rfl rfl rfl ?_
    refine ax_s (pc' := 9) (st' := [.int 0, .int 0, .int (nI j), .ref 283]) rfl rfl rfl rfl ?_
    refine ax_call (vs := [.ref 283, .int (nI j), .int 0, .int 0]) (rr := []) rfl rfl rfl ?_
    refine ax_in (ls := [some (.ref 283), some (.int (nI j)), some (.int 0), some (.int 0)]) rfl ?_
    refine ax_s (pc' := 1) (st' := [.ref 283]) rfl rfl rfl rfl ?_
    refine ax_s (pc' := 2) (st' := [.ref 283, .ref 283]) rfl rfl rfl rfl ?_
    refine ax_get rfl (hh_283 _ _ _) rfl rfl rfl ?_
    show am_ex (d + 28) 137 5 [some (.ref 283), some (.int (nI j)), some (.int 0), some (.int 0)] [.ref 20, .ref 283] (am_hh X (am_u S 283 2 0) L) _
    refine ax_get rfl (hh_20 _ _ _) rfl rfl rfl ?_
    show am_ex (d + 28) 137 8 [some (.ref 283), some (.int (nI j)), some (.int 0), some (.int 0)] [.ref 22, .ref 283] (am_hh X (am_u S 283 2 0) L) _
    refine ax_s (pc' := 9) (st' := [.int (nI j), .ref 22, .ref 283]) rfl rfl rfl rfl ?_
    refine ax_ald (j := j) (v := 5) rfl (hh_22 _ _ _) rfl rfl (x1 c1) (by decide) hk ?_
    refine ax_s (pc' := 11) (st' := [.int 0, .int 5, .ref 283]) rfl rfl rfl rfl ?_
    refine ax_if_ne rfl (fun c3 => False.elim (by revert c3; decide)) (fun c3 => ?_)
    refine ax_s (pc' := 17) (st' := [.ref 3, .int 5, .ref 283]) rfl rfl rfl rfl ?_
    refine ax_s (pc' := 23) (st' := [.ref 3, .int 5, .ref 283]) rfl rfl rfl rfl ?_
    refine ax_call (vs := [.int 5, .ref 3]) (rr := [.ref 283]) rfl rfl rfl ?_
    refine ax_in (ls := [some (.int 5), some (.ref 3), none, none]) rfl ?_
    refine ax_s (pc' := 1) (st' := [.int 5]) rfl rfl rfl rfl ?_
    refine ax_s (pc' := 2) (ls' := [some (.int 5), some (.ref 3), some (.int 5), none]) (st' := []) rfl rfl rfl rfl ?_
    refine ax_s (pc' := 3) (st' := [.int 0]) rfl rfl rfl rfl ?_
    refine ax_s (pc' := 4) (ls' := [some (.int 5), some (.ref 3), some (.int 5), some (.int 0)]) (st' := []) rfl rfl rfl rfl ?_
    refine ax_s (pc' := 5) (st' := [.int 0]) rfl rfl rfl rfl ?_
    refine ax_s (pc' := 6) (st' := [.int 5, .int 0]) rfl rfl rfl rfl ?_
    refine ax_cmp_gt rfl (fun c4 => False.elim (by revert c4; decide)) (fun c4 => ?_)
    refine ax_s (pc' := 10) (st' := [.int 5]) rfl rfl rfl rfl ?_
    refine ax_call (vs := [.int 5]) (rr := []) rfl rfl rfl ?_
    refine ax_in (ls := [some (.int 5)]) rfl ?_
    refine ax_s (pc' := 1) (st' := [.int 5]) rfl rfl rfl rfl ?_
    refine ax_if_lt rfl (fun c5 => False.elim (by revert c5; decide)) (fun c5 => ?_)
    refine ax_s (pc' := 5) (st' := [.int 5]) rfl rfl rfl rfl ?_
    refine ax_s (pc' := 6) (st' := [.int 5, .int 5]) rfl rfl rfl rfl ?_
    refine ax_cmp_gt rfl (fun c6 => False.elim (by revert c6; decide)) (fun c6 => ?_)
    refine ax_s (pc' := 10) (st' := [.int 1]) rfl rfl rfl rfl ?_
    refine ax_s (pc' := 14) (st' := [.int 1]) rfl rfl rfl rfl ?_
    refine ax_rb (b := true) rfl rfl ?_
    show am_ex (d + 27) 138 13 [some (.int 5), some (.ref 3), some (.int 5), some (.int 0)] [.int 1] (am_hh X (am_u S 283 2 0) L) _
    refine ax_if_eq rfl (fun c7 => False.elim (by revert c7; decide)) (fun c7 => ?_)
    refine ax_s (pc' := 17) (st' := [.ref 3]) rfl rfl rfl rfl ?_
    refine ax_s (pc' := 18) (st' := [.int 5, .ref 3]) rfl rfl rfl rfl ?_
    refine ax_ald (j := 5) (v := 14) rfl (hh_s3 _ _ _) rfl rfl (by decide) (by decide) rfl ?_
    refine ax_s (pc' := 21) (st' := [.int (-1000000), .int 14]) rfl rfl rfl rfl ?_
    refine ax_cmp_eq rfl (fun c8 => False.elim (by revert c8; decide)) (fun c8 => ?_)
    refine ax_s (pc' := 25) (st' := [.ref 3]) rfl rfl rfl rfl ?_
    refine ax_s (pc' := 26) (st' := [.int 5, .ref 3]) rfl rfl rfl rfl ?_
    refine ax_ald (j := 5) (v := 14) rfl (hh_s3 _ _ _) rfl rfl (by decide) (by decide) rfl ?_
    refine ax_r rfl rfl rfl ?_
    show am_ex (d + 28) 137 26 [some (.ref 283), some (.int (nI j)), some (.int 0), some (.int 0)] [.int 14, .ref 283] (am_hh X (am_u S 283 2 0) L) _
    refine ax_s (pc' := 27) (st' := [.int (nI j), .int 14, .ref 283]) rfl rfl rfl rfl ?_
    refine ax_s (pc' := 28) (st' := [.int 0, .int (nI j), .int 14, .ref 283]) rfl rfl rfl rfl ?_
    refine ax_call (vs := [.ref 283, .int 14, .int (nI j), .int 0]) (rr := []) rfl rfl rfl ?_
    refine ax_in (ls := [some (.ref 283), some (.int 14), some (.int (nI j)), some (.int 0), none]) rfl ?_
    refine ax_s (pc' := 1) (st' := [.int 0]) rfl rfl rfl rfl ?_
    refine ax_s (pc' := 3) (st' := [.int 16, .int 0]) rfl rfl rfl rfl ?_
    refine ax_cmp_le rfl (fun c9 => ?_) (fun c9 => False.elim (by revert c9; decide))
    refine ax_s (pc' := 10) (st' := [.ref 283]) rfl rfl rfl rfl ?_
    refine ax_s (pc' := 11) (st' := [.int 14, .ref 283]) rfl rfl rfl rfl ?_
    refine ax_call (vs := [.ref 283, .int 14]) (rr := []) rfl rfl rfl ?_
    refine ax_in (ls := [some (.ref 283), some (.int 14)]) rfl ?_
    refine ax_s (pc' := 1) (st' := [.ref 283]) rfl rfl rfl rfl ?_
    refine ax_get rfl (hh_283 _ _ _) rfl rfl rfl ?_
    show am_ex (d + 26) 140 4 [some (.ref 283), some (.int 14)] [.int 0] (am_hh X (am_u S 283 2 0) L) _
    refine ax_if_lt rfl (fun c10 => False.elim (by revert c10; decide)) (fun c10 => ?_)
    refine ax_s (pc' := 8) (st' := [.ref 283]) rfl rfl rfl rfl ?_
    refine ax_get rfl (hh_283 _ _ _) rfl rfl rfl ?_
    show am_ex (d + 26) 140 11 [some (.ref 283), some (.int 14)] [.int 0] (am_hh X (am_u S 283 2 0) L) _
    refine ax_s (pc' := 13) (st' := [.int 16, .int 0]) rfl rfl rfl rfl ?_
    refine ax_cmp_ge rfl (fun c11 => False.elim (by revert c11; decide)) (fun c11 => ?_)
    refine ax_s (pc' := 17) (st' := [.ref 283]) rfl rfl rfl rfl ?_
    refine ax_get rfl (hh_283 _ _ _) rfl rfl rfl ?_
    show am_ex (d + 26) 140 20 [some (.ref 283), some (.int 14)] [.ref 284] (am_hh X (am_u S 283 2 0) L) _
    refine ax_s (pc' := 21) (st' := [.ref 283, .ref 284]) rfl rfl rfl rfl ?_
    refine ax_get rfl (hh_283 _ _ _) rfl rfl rfl ?_
    show am_ex (d + 26) 140 24 [some (.ref 283), some (.int 14)] [.int 0, .ref 284] (am_hh X (am_u S 283 2 0) L) _
    refine ax_s (pc' := 25) (st' := [.int 14, .int 0, .ref 284]) rfl rfl rfl rfl ?_
    refine ax_ast (j := 0) rfl (hh_284 _ _ _) rfl rfl (by decide) (by decide) (am_hh_set _ _ _ 284 0 _ rfl) ?_
    refine ax_s (pc' := 27) (st' := [.ref 283]) rfl rfl rfl rfl ?_
    refine ax_s (pc' := 28) (st' := [.ref 283, .ref 283]) rfl rfl rfl rfl ?_
    refine ax_get rfl (hh_283 _ _ _) rfl rfl rfl ?_
    show am_ex (d + 26) 140 31 [some (.ref 283), some (.int 14)] [.int 0, .ref 283] (am_hh X (am_u (am_u S 283 2 0) 284 0 14) L) _
    refine ax_s (pc' := 32) (st' := [.int 1, .int 0, .ref 283]) rfl rfl rfl rfl ?_
    refine ax_s (pc' := 33) (st' := [.int 1, .ref 283]) rfl rfl rfl rfl ?_
    refine ax_put rfl (hh_283 _ _ _) rfl rfl (show 2 + 1 ≤ _ from Nat.le_of_ble_eq_true rfl) rfl (am_hh_set _ _ _ 283 2 _ rfl) ?_
    refine ax_r rfl rfl rfl ?_
    show am_ex (d + 27) 139 14 [some (.ref 283), some (.int 14), some (.int (nI j)), some (.int 0), none] [] (am_hh X (am_u (am_u (am_u S 283 2 0) 284 0 14) 283 2 1) L) _
    refine ax_s (pc' := 15) (st' := [.int 0]) rfl rfl rfl rfl ?_
    refine ax_s (pc' := 16) (st' := [.int 1, .int 0]) rfl rfl rfl rfl ?_
    refine ax_s (pc' := 17) (st' := [.int 1]) rfl rfl rfl rfl ?_
    refine ax_s (pc' := 19) (ls' := [some (.ref 283), some (.int 14), some (.int (nI j)), some (.int 0), some (.int 1)]) (st' := []) rfl rfl rfl rfl ?_
    refine ax_s (pc' := 20) (st' := [.int 14]) rfl rfl rfl rfl ?_
    refine ax_s (pc' := 150) (ls' := [some (.ref 283), some (.int 14), some (.int (nI j)), some (.int 0), some (.int 1)]) (st' := []) (h1 := (am_hh X (am_u (am_u (am_u S 283 2 0) 284 0 14) 283 2 1) L)) rfl rfl rfl rfl ?_
    refine ax_s (pc' := 151) (st' := [.int 2]) rfl rfl rfl rfl ?_
    refine ax_s (pc' := 152) (st' := [.ref 283, .int 2]) rfl rfl rfl rfl ?_
    refine ax_s (pc' := 154) (st' := [.int 13, .ref 283, .int 2]) rfl rfl rfl rfl ?_
    refine ax_s (pc' := 155) (st' := [.int (nI j), .int 13, .ref 283, .int 2]) rfl rfl rfl rfl ?_
    refine ax_s (pc' := 157) (st' := [.int 1, .int (nI j), .int 13, .ref 283, .int 2]) rfl rfl rfl rfl ?_
    refine ax_call (vs := [.ref 283, .int 13, .int (nI j), .int 1]) (rr := [.int 2]) rfl rfl rfl ?_
    refine ax_in (ls := [some (.ref 283), some (.int 13), some (.int (nI j)), some (.int 1), none]) rfl ?_
    refine ax_s (pc' := 1) (st' := [.int 1]) rfl rfl rfl rfl ?_
    refine ax_s (pc' := 3) (st' := [.int 16, .int 1]) rfl rfl rfl rfl ?_
    refine ax_cmp_le rfl (fun c12 => ?_) (fun c12 => False.elim (by revert c12; decide))
    refine ax_s (pc' := 10) (st' := [.ref 283]) rfl rfl rfl rfl ?_
    refine ax_s (pc' := 11) (st' := [.int 13, .ref 283]) rfl rfl rfl rfl ?_
    refine ax_call (vs := [.ref 283, .int 13]) (rr := []) rfl rfl rfl ?_
    refine ax_in (ls := [some (.ref 283), some (.int 13)]) rfl ?_
    refine ax_s (pc' := 1) (st' := [.ref 283]) rfl rfl rfl rfl ?_
    refine ax_get rfl (hh_283 _ _ _) rfl rfl rfl ?_
    show am_ex (d + 25) 140 4 [some (.ref 283), some (.int 13)] [.int 1] (am_hh X (am_u (am_u (am_u S 283 2 0) 284 0 14) 283 2 1) L) _
    refine ax_if_lt rfl (fun c13 => False.elim (by revert c13; decide)) (fun c13 => ?_)
    refine ax_s (pc' := 8) (st' := [.ref 283]) rfl rfl rfl rfl ?_
    refine ax_get rfl (hh_283 _ _ _) rfl rfl rfl ?_
    show am_ex (d + 25) 140 11 [some (.ref 283), some (.int 13)] [.int 1] (am_hh X (am_u (am_u (am_u S 283 2 0) 284 0 14) 283 2 1) L) _
    refine ax_s (pc' := 13) (st' := [.int 16, .int 1]) rfl rfl rfl rfl ?_
    refine ax_cmp_ge rfl (fun c14 => False.elim (by revert c14; decide)) (fun c14 => ?_)
    refine ax_s (pc' := 17) (st' := [.ref 283]) rfl rfl rfl rfl ?_
    refine ax_get rfl (hh_283 _ _ _) rfl rfl rfl ?_
    show am_ex (d + 25) 140 20 [some (.ref 283), some (.int 13)] [.ref 284] (am_hh X (am_u (am_u (am_u S 283 2 0) 284 0 14) 283 2 1) L) _
    refine ax_s (pc' := 21) (st' := [.ref 283, .ref 284]) rfl rfl rfl rfl ?_
    refine ax_get rfl (hh_283 _ _ _) rfl rfl rfl ?_
    show am_ex (d + 25) 140 24 [some (.ref 283), some (.int 13)] [.int 1, .ref 284] (am_hh X (am_u (am_u (am_u S 283 2 0) 284 0 14) 283 2 1) L) _
    refine ax_s (pc' := 25) (st' := [.int 13, .int 1, .ref 284]) rfl rfl rfl rfl ?_
    refine ax_ast (j := 1) rfl (hh_284 _ _ _) rfl rfl (by decide) (by decide) (am_hh_set _ _ _ 284 1 _ rfl) ?_
    refine ax_s (pc' := 27) (st' := [.ref 283]) rfl rfl rfl rfl ?_
    refine ax_s (pc' := 28) (st' := [.ref 283, .ref 283]) rfl rfl rfl rfl ?_
    refine ax_get rfl (hh_283 _ _ _) rfl rfl rfl ?_
    show am_ex (d + 25) 140 31 [some (.ref 283), some (.int 13)] [.int 1, .ref 283] (am_hh X (am_u (am_u (am_u (am_u S 283 2 0) 284 0 14) 283 2 1) 284 1 13) L) _
    refine ax_s (pc' := 32) (st' := [.int 1, .int 1, .ref 283]) rfl rfl rfl rfl ?_
    refine ax_s (pc' := 33) (st' := [.int 2, .ref 283]) rfl rfl rfl rfl ?_
    refine ax_put rfl (hh_283 _ _ _) rfl rfl (show 2 + 1 ≤ _ from Nat.le_of_ble_eq_true rfl) rfl (am_hh_set _ _ _ 283 2 _ rfl) ?_
    refine ax_r rfl rfl rfl ?_
    show am_ex (d + 26) 139 14 [some (.ref 283), some (.int 13), some (.int (nI j)), some (.int 1), none] [] (am_hh X (am_u (am_u (am_u (am_u (am_u S 283 2 0) 284 0 14) 283 2 1) 284 1 13) 283 2 2) L) _
    refine ax_s (pc' := 15) (st' := [.int 1]) rfl rfl rfl rfl ?_
    refine ax_s (pc' := 16) (st' := [.int 1, .int 1]) rfl rfl rfl rfl ?_
    refine ax_s (pc' := 17) (st' := [.int 2]) rfl rfl rfl rfl ?_
    refine ax_s (pc' := 19) (ls' := [some (.ref 283), some (.int 13), some (.int (nI j)), some (.int 1), some (.int 2)]) (st' := []) rfl rfl rfl rfl ?_
    refine ax_s (pc' := 20) (st' := [.int 13]) rfl rfl rfl rfl ?_
    refine ax_s (pc' := 137) (ls' := [some (.ref 283), some (.int 13), some (.int (nI j)), some (.int 1), some (.int 2)]) (st' := []) (h1 := (am_hh X (am_u (am_u (am_u (am_u (am_u S 283 2 0) 284 0 14) 283 2 1) 284 1 13) 283 2 2) L)) rfl rfl rfl rfl ?_
    refine ax_s (pc' := 138) (st' := [.ref 283]) rfl rfl rfl rfl ?_
    refine ax_s (pc' := 140) (st' := [.int 10, .ref 283]) rfl rfl rfl rfl ?_
    refine ax_s (pc' := 141) (st' := [.int (nI j), .int 10, .ref 283]) rfl rfl rfl rfl ?_
    refine ax_s (pc' := 143) (st' := [.int 2, .int (nI j), .int 10, .ref 283]) rfl rfl rfl rfl ?_
    refine ax_call (vs := [.ref 283, .int 10, .int (nI j), .int 2]) (rr := []) rfl rfl rfl ?_
    refine ax_in (ls := [some (.ref 283), some (.int 10), some (.int (nI j)), some (.int 2), none]) rfl ?_
    refine ax_s (pc' := 1) (st' := [.int 2]) rfl rfl rfl rfl ?_
    refine ax_s (pc' := 3) (st' := [.int 16, .int 2]) rfl rfl rfl rfl ?_
    refine ax_cmp_le rfl (fun c15 => ?_) (fun c15 => False.elim (by revert c15; decide))
    refine ax_s (pc' := 10) (st' := [.ref 283]) rfl rfl rfl rfl ?_
    refine ax_s (pc' := 11) (st' := [.int 10, .ref 283]) rfl rfl rfl rfl ?_
    refine ax_call (vs := [.ref 283, .int 10]) (rr := []) rfl rfl rfl ?_
    refine ax_in (ls := [some (.ref 283), some (.int 10)]) rfl ?_
    refine ax_s (pc' := 1) (st' := [.ref 283]) rfl rfl rfl rfl ?_
    refine ax_get rfl (hh_283 _ _ _) rfl rfl rfl ?_
    show am_ex (d + 24) 140 4 [some (.ref 283), some (.int 10)] [.int 2] (am_hh X (am_u (am_u (am_u (am_u (am_u S 283 2 0) 284 0 14) 283 2 1) 284 1 13) 283 2 2) L) _
    refine ax_if_lt rfl (fun c16 => False.elim (by revert c16; decide)) (fun c16 => ?_)
    refine ax_s (pc' := 8) (st' := [.ref 283]) rfl rfl rfl rfl ?_
    refine ax_get rfl (hh_283 _ _ _) rfl rfl rfl ?_
    show am_ex (d + 24) 140 11 [some (.ref 283), some (.int 10)] [.int 2] (am_hh X (am_u (am_u (am_u (am_u (am_u S 283 2 0) 284 0 14) 283 2 1) 284 1 13) 283 2 2) L) _
    refine ax_s (pc' := 13) (st' := [.int 16, .int 2]) rfl rfl rfl rfl ?_
    refine ax_cmp_ge rfl (fun c17 => False.elim (by revert c17; decide)) (fun c17 => ?_)
    refine ax_s (pc' := 17) (st' := [.ref 283]) rfl rfl rfl rfl ?_
    refine ax_get rfl (hh_283 _ _ _) rfl rfl rfl ?_
    show am_ex (d + 24) 140 20 [some (.ref 283), some (.int 10)] [.ref 284] (am_hh X (am_u (am_u (am_u (am_u (am_u S 283 2 0) 284 0 14) 283 2 1) 284 1 13) 283 2 2) L) _
    refine ax_s (pc' := 21) (st' := [.ref 283, .ref 284]) rfl rfl rfl rfl ?_
    refine ax_get rfl (hh_283 _ _ _) rfl rfl rfl ?_
    show am_ex (d + 24) 140 24 [some (.ref 283), some (.int 10)] [.int 2, .ref 284] (am_hh X (am_u (am_u (am_u (am_u (am_u S 283 2 0) 284 0 14) 283 2 1) 284 1 13) 283 2 2) L) _
    refine ax_s (pc' := 25) (st' := [.int 10, .int 2, .ref 284]) rfl rfl rfl rfl ?_
    refine ax_ast (j := 2) rfl (hh_284 _ _ _) rfl rfl (by decide) (by decide) (am_hh_set _ _ _ 284 2 _ rfl) ?_
    refine ax_s (pc' := 27) (st' := [.ref 283]) rfl rfl rfl rfl ?_
    refine ax_s (pc' := 28) (st' := [.ref 283, .ref 283]) rfl rfl rfl rfl ?_
    refine ax_get rfl (hh_283 _ _ _) rfl rfl rfl ?_
    show am_ex (d + 24) 140 31 [some (.ref 283), some (.int 10)] [.int 2, .ref 283] (am_hh X (am_u (am_u (am_u (am_u (am_u (am_u S 283 2 0) 284 0 14) 283 2 1) 284 1 13) 283 2 2) 284 2 10) L) _
    refine ax_s (pc' := 32) (st' := [.int 1, .int 2, .ref 283]) rfl rfl rfl rfl ?_
    refine ax_s (pc' := 33) (st' := [.int 3, .ref 283]) rfl rfl rfl rfl ?_
    refine ax_put rfl (hh_283 _ _ _) rfl rfl (show 2 + 1 ≤ _ from Nat.le_of_ble_eq_true rfl) rfl (am_hh_set _ _ _ 283 2 _ rfl) ?_
    refine ax_r rfl rfl rfl ?_
    show am_ex (d + 25) 139 14 [some (.ref 283), some (.int 10), some (.int (nI j)), some (.int 2), none] [] (am_hh X (am_u (am_u (am_u (am_u (am_u (am_u (am_u S 283 2 0) 284 0 14) 283 2 1) 284 1 13) 283 2 2) 284 2 10) 283 2 3) L) _
    refine ax_s (pc' := 15) (st' := [.int 2]) rfl rfl rfl rfl ?_
    refine ax_s (pc' := 16) (st' := [.int 1, .int 2]) rfl rfl rfl rfl ?_
    refine ax_s (pc' := 17) (st' := [.int 3]) rfl rfl rfl rfl ?_
    refine ax_s (pc' := 19) (ls' := [some (.ref 283), some (.int 10), some (.int (nI j)), some (.int 2), some (.int 3)]) (st' := []) rfl rfl rfl rfl ?_
    refine ax_s (pc' := 20) (st' := [.int 10]) rfl rfl rfl rfl ?_
    refine ax_s (pc' := 96) (ls' := [some (.ref 283), some (.int 10), some (.int (nI j)), some (.int 2), some (.int 3)]) (st' := []) (h1 := (am_hh X (am_u (am_u (am_u (am_u (am_u (am_u (am_u S 283 2 0) 284 0 14) 283 2 1) 284 1 13) 283 2 2) 284 2 10) 283 2 3) L)) rfl rfl rfl rfl ?_
    refine ax_s (pc' := 97) (st' := [.ref 283]) rfl rfl rfl rfl ?_
    refine ax_get rfl (hh_283 _ _ _) rfl rfl rfl ?_
    show am_ex (d + 25) 139 100 [some (.ref 283), some (.int 10), some (.int (nI j)), some (.int 2), some (.int 3)] [.ref 20] (am_hh X (am_u (am_u (am_u (am_u (am_u (am_u (am_u S 283 2 0) 284 0 14) 283 2 1) 284 1 13) 283 2 2) 284 2 10) 283 2 3) L) _
    refine ax_get rfl (hh_20 _ _ _) rfl rfl rfl ?_
    show am_ex (d + 25) 139 103 [some (.ref 283), some (.int 10), some (.int (nI j)), some (.int 2), some (.int 3)] [.ref 23] (am_hh X (am_u (am_u (am_u (am_u (am_u (am_u (am_u S 283 2 0) 284 0 14) 283 2 1) 284 1 13) 283 2 2) 284 2 10) 283 2 3) L) _
    refine ax_s (pc' := 104) (st' := [.int (nI j), .ref 23]) rfl rfl rfl rfl ?_
    refine ax_ald (j := j) (v := (S 23 j)) rfl (hh_23 _ _ _) rfl rfl (x1 c1) (by decide) rfl ?_
    refine ax_r rfl rfl rfl ?_
    show am_ex (d + 26) 139 146 [some (.ref 283), some (.int 13), some (.int (nI j)), some (.int 1), some (.int 2)] [.int (S 23 j)] (am_hh X (am_u (am_u (am_u (am_u (am_u (am_u (am_u S 283 2 0) 284 0 14) 283 2 1) 284 1 13) 283 2 2) 284 2 10) 283 2 3) L) _
    refine ax_s (pc' := 148) (st' := [.int 100, .int (S 23 j)]) rfl rfl rfl rfl ?_
    refine ax_s (pc' := 149) (st' := [.int ((S 23 j) - 100)]) rfl rfl rfl rfl ?_
    refine ax_r rfl rfl rfl ?_
    show am_ex (d + 27) 139 160 [some (.ref 283), some (.int 14), some (.int (nI j)), some (.int 0), some (.int 1)] [.int ((S 23 j) - 100), .int 2] (am_hh X (am_u (am_u (am_u (am_u (am_u (am_u (am_u S 283 2 0) 284 0 14) 283 2 1) 284 1 13) 283 2 2) 284 2 10) 283 2 3) L) _
    refine ax_s (pc' := 161) (st' := [.int (2 * ((S 23 j) - 100))]) rfl rfl rfl rfl ?_
    refine ax_r rfl rfl rfl ?_
    show am_ex (d + 28) 137 31 [some (.ref 283), some (.int (nI j)), some (.int 0), some (.int 0)] [.int (2 * ((S 23 j) - 100))] (am_hh X (am_u (am_u (am_u (am_u (am_u (am_u (am_u S 283 2 0) 284 0 14) 283 2 1) 284 1 13) 283 2 2) 284 2 10) 283 2 3) L) _
    refine ax_r rfl rfl rfl ?_
    show am_ex (d + 29) 238 12 [some (.ref 283), some (.int (nI j)), some (.int 0)] [.int (2 * ((S 23 j) - 100))] (am_hh X (am_u (am_u (am_u (am_u (am_u (am_u (am_u S 283 2 0) 284 0 14) 283 2 1) 284 1 13) 283 2 2) 284 2 10) 283 2 3) L) _
    refine ax_r rfl rfl rfl ?_
    show am_ex (d + 30) 136 32 [some (.ref 5), some (.int (nI j)), some (.int 0)] [.int (2 * ((S 23 j) - 100))] (am_hh X (am_u (am_u (am_u (am_u (am_u (am_u (am_u S 283 2 0) 284 0 14) 283 2 1) 284 1 13) 283 2 2) 284 2 10) 283 2 3) L) _
    refine ax_r rfl rfl rfl ?_
    exact k2 c1
theorem wm_ask_5_0 {d : Nat} {X : Nat × (Nat → Int32)} {S : Nat → Nat → Int32} {L : Nat → Int64} {j : Nat} {Q : Option Value → am_H → Prop} (hk : S 290 j = 5) (hj : j < 6)  (x1 : ¬ (nI j) < 0 ∧ ¬ (S 285 7) - 1 < (nI j) → j < 6) (k1 : ¬ (¬ (nI j) < 0 ∧ ¬ (S 285 7) - 1 < (nI j)) → Q (some (.int (-1000001))) (am_hh X S L)) (k2 : ¬ (nI j) < 0 ∧ ¬ (S 285 7) - 1 < (nI j) → Q (some (.int (2 * ((S 291 j) - 100)))) (am_hh X (am_u (am_u (am_u (am_u (am_u (am_u (am_u S 285 20 0) 299 0 14) 285 20 1) 299 1 13) 285 20 2) 299 2 10) 285 20 3) L)) : am_mt (d + 10) 224 [.ref 285, .int (nI j), .int 0] (am_hh X S L) Q := by
  refine ax_in (ls := [some (.ref 285), some (.int (nI j)), some (.int 0)]) rfl ?_
  refine ax_s (pc' := 1) (st' := [.ref 285]) rfl rfl rfl rfl ?_
  refine ax_s (pc' := 2) (st' := [.int (nI j), .ref 285]) rfl rfl rfl rfl ?_
  refine ax_call (vs := [.ref 285, .int (nI j)]) (rr := []) rfl rfl rfl ?_
  refine mt_isParty  ?_
  show am_ex (d + 10) 224 5 [some (.ref 285), some (.int (nI j)), some (.int 0)] [.int (bI (decide (¬ (nI j) < 0 ∧ ¬ (S 285 7) - 1 < (nI j))))] (am_hh X S L) _
  refine ax_pF rfl (fun c1 => ?_) (fun c1 => ?_)
  · refine ax_s (pc' := 19) (st' := [.int (-1000001)]) rfl rfl rfl rfl ?_
    refine ax_r rfl rfl rfl ?_
    exact k1 c1
  · refine ax_s (pc' := 9) (st' := [.int 0]) rfl rfl rfl rfl ?_
    refine ax_s (pc' := 10) (st' := [.int 0, .int 0]) rfl rfl rfl rfl ?_
    refine ax_s (pc' := 11) (st' := [.int 1, .int 0, .int 0]) rfl rfl rfl rfl ?_
    refine ax_call (vs := [.int 0, .int 0, .int 1]) (rr := []) rfl rfl rfl ?_
    refine mt_in ?_
    show am_ex (d + 10) 224 14 [some (.ref 285), some (.int (nI j)), some (.int 0)] [.int 1] (am_hh X S L) _
    refine ax_if_ne rfl (fun c2 => ?_) (fun c2 => False.elim (by revert c2; decide))
    refine ax_s (pc' := 21) (st' := [.ref 285]) rfl rfl rfl rfl ?_
    refine ax_s (pc' := 22) (st' := [.int 0, .ref 285]) rfl rfl rfl rfl ?_
    refine ax_put rfl (hh_285 _ _ _) rfl rfl (show 20 + 1 ≤ _ from Nat.le_of_ble_eq_true rfl) rfl (am_hh_set _ _ _ 285 20 _ rfl) ?_
    refine ax_s (pc' := 26) (st' := [.ref 285]) rfl rfl rfl rfl ?_
    refine ax_get rfl (hh_285 _ _ _) rfl rfl rfl ?_
    show am_ex (d + 10) 224 29 [some (.ref 285), some (.int (nI j)), some (.int 0)] [.ref 290] (am_hh X (am_u S 285 20 0) L) _
    refine ax_s (pc' := 30) (st' := [.int (nI j), .ref 290]) rfl rfl rfl rfl ?_
    refine ax_ald (j := j) (v := 5) rfl (hh_290 _ _ _) rfl rfl (x1 c1) (by decide) hk ?_
    refine ax_s (pc' := 32) (st' := [.int 4, .int 5]) rfl rfl rfl rfl ?_
    refine ax_cmp_ge rfl (fun c3 => ?_) (fun c3 => False.elim (by revert c3; decide))
    refine ax_s (pc' := 54) (st' := [.int 0]) rfl rfl rfl rfl ?_
    refine ax_if_ne rfl (fun c4 => False.elim (by revert c4; decide)) (fun c4 => ?_)
    refine ax_s (pc' := 58) (st' := [.ref 285]) rfl rfl rfl rfl ?_
    refine ax_s (pc' := 59) (st' := [.int (nI j), .ref 285]) rfl rfl rfl rfl ?_
    refine ax_call (vs := [.ref 285, .int (nI j)]) (rr := []) rfl rfl rfl ?_
    refine ax_in (ls := [some (.ref 285), some (.int (nI j)), none]) rfl ?_
    refine ax_s (pc' := 1) (st' := [.ref 285]) rfl rfl rfl rfl ?_
    refine ax_get rfl (hh_285 _ _ _) rfl rfl rfl ?_
    show am_ex (d + 9) 231 4 [some (.ref 285), some (.int (nI j)), none] [.ref 290] (am_hh X (am_u S 285 20 0) L) _
    refine ax_s (pc' := 5) (st' := [.int (nI j), .ref 290]) rfl rfl rfl rfl ?_
    refine ax_ald (j := j) (v := 5) rfl (hh_290 _ _ _) rfl rfl (x1 c1) (by decide) hk ?_
    refine ax_s (pc' := 7) (st' := [.int 5, .int 5]) rfl rfl rfl rfl ?_
    refine ax_cmp_ne rfl (fun c5 => False.elim (by revert c5; decide)) (fun c5 => ?_)
    refine ax_s (pc' := 11) (st' := [.ref 285]) rfl rfl rfl rfl ?_
    refine ax_s (pc' := 13) (st' := [.int 14, .ref 285]) rfl rfl rfl rfl ?_
    refine ax_call (vs := [.ref 285, .int 14]) (rr := []) rfl rfl rfl ?_
    refine ax_in (ls := [some (.ref 285), some (.int 14)]) rfl ?_
    refine ax_s (pc' := 1) (st' := [.ref 285]) rfl rfl rfl rfl ?_
    refine ax_get rfl (hh_285 _ _ _) rfl rfl rfl ?_
    show am_ex (d + 8) 226 4 [some (.ref 285), some (.int 14)] [.int 0] (am_hh X (am_u S 285 20 0) L) _
    refine ax_s (pc' := 6) (st' := [.int 16, .int 0]) rfl rfl rfl rfl ?_
    refine ax_cmp_ge rfl (fun c6 => False.elim (by revert c6; decide)) (fun c6 => ?_)
    refine ax_s (pc' := 10) (st' := [.ref 285]) rfl rfl rfl rfl ?_
    refine ax_get rfl (hh_285 _ _ _) rfl rfl rfl ?_
    show am_ex (d + 8) 226 13 [some (.ref 285), some (.int 14)] [.ref 299] (am_hh X (am_u S 285 20 0) L) _
    refine ax_s (pc' := 14) (st' := [.ref 285, .ref 299]) rfl rfl rfl rfl ?_
    refine ax_get rfl (hh_285 _ _ _) rfl rfl rfl ?_
    show am_ex (d + 8) 226 17 [some (.ref 285), some (.int 14)] [.int 0, .ref 299] (am_hh X (am_u S 285 20 0) L) _
    refine ax_s (pc' := 18) (st' := [.int 14, .int 0, .ref 299]) rfl rfl rfl rfl ?_
    refine ax_ast (j := 0) rfl (hh_299 _ _ _) rfl rfl (by decide) (by decide) (am_hh_set _ _ _ 299 0 _ rfl) ?_
    refine ax_s (pc' := 20) (st' := [.ref 285]) rfl rfl rfl rfl ?_
    refine ax_s (pc' := 21) (st' := [.ref 285, .ref 285]) rfl rfl rfl rfl ?_
    refine ax_get rfl (hh_285 _ _ _) rfl rfl rfl ?_
    show am_ex (d + 8) 226 24 [some (.ref 285), some (.int 14)] [.int 0, .ref 285] (am_hh X (am_u (am_u S 285 20 0) 299 0 14) L) _
    refine ax_s (pc' := 25) (st' := [.int 1, .int 0, .ref 285]) rfl rfl rfl rfl ?_
    refine ax_s (pc' := 26) (st' := [.int 1, .ref 285]) rfl rfl rfl rfl ?_
    refine ax_put rfl (hh_285 _ _ _) rfl rfl (show 20 + 1 ≤ _ from Nat.le_of_ble_eq_true rfl) rfl (am_hh_set _ _ _ 285 20 _ rfl) ?_
    refine ax_r rfl rfl rfl ?_
    show am_ex (d + 9) 231 16 [some (.ref 285), some (.int (nI j)), none] [] (am_hh X (am_u (am_u (am_u S 285 20 0) 299 0 14) 285 20 1) L) _
    refine ax_s (pc' := 17) (st' := [.ref 285]) rfl rfl rfl rfl ?_
    refine ax_s (pc' := 19) (st' := [.int 13, .ref 285]) rfl rfl rfl rfl ?_
    refine ax_call (vs := [.ref 285, .int 13]) (rr := []) rfl rfl rfl ?_
    refine ax_in (ls := [some (.ref 285), some (.int 13)]) rfl ?_
    refine ax_s (pc' := 1) (st' := [.ref 285]) rfl rfl rfl rfl ?_
    refine ax_get rfl (hh_285 _ _ _) rfl rfl rfl ?_
    show am_ex (d + 8) 226 4 [some (.ref 285), some (.int 13)] [.int 1] (am_hh X (am_u (am_u (am_u S 285 20 0) 299 0 14) 285 20 1) L) _
    refine ax_s (pc' := 6) (st' := [.int 16, .int 1]) rfl rfl rfl rfl ?_
    refine ax_cmp_ge rfl (fun c7 => False.elim (by revert c7; decide)) (fun c7 => ?_)
    refine ax_s (pc' := 10) (st' := [.ref 285]) rfl rfl rfl rfl ?_
    refine ax_get rfl (hh_285 _ _ _) rfl rfl rfl ?_
    show am_ex (d + 8) 226 13 [some (.ref 285), some (.int 13)] [.ref 299] (am_hh X (am_u (am_u (am_u S 285 20 0) 299 0 14) 285 20 1) L) _
    refine ax_s (pc' := 14) (st' := [.ref 285, .ref 299]) rfl rfl rfl rfl ?_
    refine ax_get rfl (hh_285 _ _ _) rfl rfl rfl ?_
    show am_ex (d + 8) 226 17 [some (.ref 285), some (.int 13)] [.int 1, .ref 299] (am_hh X (am_u (am_u (am_u S 285 20 0) 299 0 14) 285 20 1) L) _
    refine ax_s (pc' := 18) (st' := [.int 13, .int 1, .ref 299]) rfl rfl rfl rfl ?_
    refine ax_ast (j := 1) rfl (hh_299 _ _ _) rfl rfl (by decide) (by decide) (am_hh_set _ _ _ 299 1 _ rfl) ?_
    refine ax_s (pc' := 20) (st' := [.ref 285]) rfl rfl rfl rfl ?_
    refine ax_s (pc' := 21) (st' := [.ref 285, .ref 285]) rfl rfl rfl rfl ?_
    refine ax_get rfl (hh_285 _ _ _) rfl rfl rfl ?_
    show am_ex (d + 8) 226 24 [some (.ref 285), some (.int 13)] [.int 1, .ref 285] (am_hh X (am_u (am_u (am_u (am_u S 285 20 0) 299 0 14) 285 20 1) 299 1 13) L) _
    refine ax_s (pc' := 25) (st' := [.int 1, .int 1, .ref 285]) rfl rfl rfl rfl ?_
    refine ax_s (pc' := 26) (st' := [.int 2, .ref 285]) rfl rfl rfl rfl ?_
    refine ax_put rfl (hh_285 _ _ _) rfl rfl (show 20 + 1 ≤ _ from Nat.le_of_ble_eq_true rfl) rfl (am_hh_set _ _ _ 285 20 _ rfl) ?_
    refine ax_r rfl rfl rfl ?_
    show am_ex (d + 9) 231 22 [some (.ref 285), some (.int (nI j)), none] [] (am_hh X (am_u (am_u (am_u (am_u (am_u S 285 20 0) 299 0 14) 285 20 1) 299 1 13) 285 20 2) L) _
    refine ax_s (pc' := 23) (st' := [.ref 285]) rfl rfl rfl rfl ?_
    refine ax_s (pc' := 24) (st' := [.int (nI j), .ref 285]) rfl rfl rfl rfl ?_
    refine ax_call (vs := [.ref 285, .int (nI j)]) (rr := []) rfl rfl rfl ?_
    refine ax_in (ls := [some (.ref 285), some (.int (nI j))]) rfl ?_
    refine ax_s (pc' := 1) (st' := [.ref 285]) rfl rfl rfl rfl ?_
    refine ax_s (pc' := 3) (st' := [.int 10, .ref 285]) rfl rfl rfl rfl ?_
    refine ax_call (vs := [.ref 285, .int 10]) (rr := []) rfl rfl rfl ?_
    refine ax_in (ls := [some (.ref 285), some (.int 10)]) rfl ?_
    refine ax_s (pc' := 1) (st' := [.ref 285]) rfl rfl rfl rfl ?_
    refine ax_get rfl (hh_285 _ _ _) rfl rfl rfl ?_
    show am_ex (d + 7) 226 4 [some (.ref 285), some (.int 10)] [.int 2] (am_hh X (am_u (am_u (am_u (am_u (am_u S 285 20 0) 299 0 14) 285 20 1) 299 1 13) 285 20 2) L) _
    refine ax_s (pc' := 6) (st' := [.int 16, .int 2]) rfl rfl rfl rfl ?_
    refine ax_cmp_ge rfl (fun c8 => False.elim (by revert c8; decide)) (fun c8 => ?_)
    refine ax_s (pc' := 10) (st' := [.ref 285]) rfl rfl rfl rfl ?_
    refine ax_get rfl (hh_285 _ _ _) rfl rfl rfl ?_
    show am_ex (d + 7) 226 13 [some (.ref 285), some (.int 10)] [.ref 299] (am_hh X (am_u (am_u (am_u (am_u (am_u S 285 20 0) 299 0 14) 285 20 1) 299 1 13) 285 20 2) L) _
    refine ax_s (pc' := 14) (st' := [.ref 285, .ref 299]) rfl rfl rfl rfl ?_
    refine ax_get rfl (hh_285 _ _ _) rfl rfl rfl ?_
    show am_ex (d + 7) 226 17 [some (.ref 285), some (.int 10)] [.int 2, .ref 299] (am_hh X (am_u (am_u (am_u (am_u (am_u S 285 20 0) 299 0 14) 285 20 1) 299 1 13) 285 20 2) L) _
    refine ax_s (pc' := 18) (st' := [.int 10, .int 2, .ref 299]) rfl rfl rfl rfl ?_
    refine ax_ast (j := 2) rfl (hh_299 _ _ _) rfl rfl (by decide) (by decide) (am_hh_set _ _ _ 299 2 _ rfl) ?_
    refine ax_s (pc' := 20) (st' := [.ref 285]) rfl rfl rfl rfl ?_
    refine ax_s (pc' := 21) (st' := [.ref 285, .ref 285]) rfl rfl rfl rfl ?_
    refine ax_get rfl (hh_285 _ _ _) rfl rfl rfl ?_
    show am_ex (d + 7) 226 24 [some (.ref 285), some (.int 10)] [.int 2, .ref 285] (am_hh X (am_u (am_u (am_u (am_u (am_u (am_u S 285 20 0) 299 0 14) 285 20 1) 299 1 13) 285 20 2) 299 2 10) L) _
    refine ax_s (pc' := 25) (st' := [.int 1, .int 2, .ref 285]) rfl rfl rfl rfl ?_
    refine ax_s (pc' := 26) (st' := [.int 3, .ref 285]) rfl rfl rfl rfl ?_
    refine ax_put rfl (hh_285 _ _ _) rfl rfl (show 20 + 1 ≤ _ from Nat.le_of_ble_eq_true rfl) rfl (am_hh_set _ _ _ 285 20 _ rfl) ?_
    refine ax_r rfl rfl rfl ?_
    show am_ex (d + 8) 227 6 [some (.ref 285), some (.int (nI j))] [] (am_hh X (am_u (am_u (am_u (am_u (am_u (am_u (am_u S 285 20 0) 299 0 14) 285 20 1) 299 1 13) 285 20 2) 299 2 10) 285 20 3) L) _
    refine ax_s (pc' := 7) (st' := [.ref 285]) rfl rfl rfl rfl ?_
    refine ax_get rfl (hh_285 _ _ _) rfl rfl rfl ?_
    show am_ex (d + 8) 227 10 [some (.ref 285), some (.int (nI j))] [.ref 291] (am_hh X (am_u (am_u (am_u (am_u (am_u (am_u (am_u S 285 20 0) 299 0 14) 285 20 1) 299 1 13) 285 20 2) 299 2 10) 285 20 3) L) _
    refine ax_s (pc' := 11) (st' := [.int (nI j), .ref 291]) rfl rfl rfl rfl ?_
    refine ax_ald (j := j) (v := (S 291 j)) rfl (hh_291 _ _ _) rfl rfl (x1 c1) (by decide) rfl ?_
    refine ax_r rfl rfl rfl ?_
    show am_ex (d + 9) 231 27 [some (.ref 285), some (.int (nI j)), none] [.int (S 291 j)] (am_hh X (am_u (am_u (am_u (am_u (am_u (am_u (am_u S 285 20 0) 299 0 14) 285 20 1) 299 1 13) 285 20 2) 299 2 10) 285 20 3) L) _
    refine ax_s (pc' := 29) (st' := [.int 100, .int (S 291 j)]) rfl rfl rfl rfl ?_
    refine ax_s (pc' := 30) (st' := [.int ((S 291 j) - 100)]) rfl rfl rfl rfl ?_
    refine ax_s (pc' := 31) (ls' := [some (.ref 285), some (.int (nI j)), some (.int ((S 291 j) - 100))]) (st' := []) rfl rfl rfl rfl ?_
    refine ax_s (pc' := 32) (st' := [.ref 285]) rfl rfl rfl rfl ?_
    refine ax_get rfl (hh_285 _ _ _) rfl rfl rfl ?_
    show am_ex (d + 9) 231 35 [some (.ref 285), some (.int (nI j)), some (.int ((S 291 j) - 100))] [.ref 290] (am_hh X (am_u (am_u (am_u (am_u (am_u (am_u (am_u S 285 20 0) 299 0 14) 285 20 1) 299 1 13) 285 20 2) 299 2 10) 285 20 3) L) _
    refine ax_s (pc' := 36) (st' := [.int (nI j), .ref 290]) rfl rfl rfl rfl ?_
    refine ax_ald (j := j) (v := 5) rfl (hh_290 _ _ _) rfl rfl (x1 c1) (by decide) hk ?_
    refine ax_s (pc' := 38) (st' := [.int 5, .int 5]) rfl rfl rfl rfl ?_
    refine ax_cmp_ne rfl (fun c9 => False.elim (by revert c9; decide)) (fun c9 => ?_)
    refine ax_s (pc' := 42) (st' := [.int 2]) rfl rfl rfl rfl ?_
    refine ax_s (pc' := 43) (st' := [.int ((S 291 j) - 100), .int 2]) rfl rfl rfl rfl ?_
    refine ax_s (pc' := 44) (st' := [.int (2 * ((S 291 j) - 100))]) rfl rfl rfl rfl ?_
    refine ax_s (pc' := 48) (st' := [.int (2 * ((S 291 j) - 100))]) rfl rfl rfl rfl ?_
    refine ax_r rfl rfl rfl ?_
    show am_ex (d + 10) 224 62 [some (.ref 285), some (.int (nI j)), some (.int 0)] [.int (2 * ((S 291 j) - 100))] (am_hh X (am_u (am_u (am_u (am_u (am_u (am_u (am_u S 285 20 0) 299 0 14) 285 20 1) 299 1 13) 285 20 2) 299 2 10) 285 20 3) L) _
    refine ax_s (pc' := 70) (st' := [.int (2 * ((S 291 j) - 100))]) rfl rfl rfl rfl ?_
    refine ax_r rfl rfl rfl ?_
    exact k2 c1
theorem wk_ask_5_1 {d : Nat} {X : Nat × (Nat → Int32)} {S : Nat → Nat → Int32} {L : Nat → Int64} {j : Nat} {Q : Option Value → am_H → Prop} (hk : S 22 j = 5) (hj : j < 6)  (x1 : ¬ (nI j) < 0 ∧ ¬ (S 20 4) ≤ (nI j) → j < 6) (k1 : ¬ (¬ (nI j) < 0 ∧ ¬ (S 20 4) ≤ (nI j)) → Q (some (.int (-1000001))) (am_hh X S L)) (k2 : ¬ (nI j) < 0 ∧ ¬ (S 20 4) ≤ (nI j) → Q (some (.int ((nI j) - (2 * ((S 23 j) - 100))))) (am_hh X (am_u (am_u (am_u (am_u (am_u (am_u (am_u (am_u (am_u (am_u (am_u S 283 2 0) 284 0 23) 283 2 1) 284 1 20) 283 2 2) 284 2 14) 283 2 3) 284 3 13) 283 2 4) 284 4 10) 283 2 5) L)) : am_mt (d + 30) 136 [.ref 5, .int (nI j), .int 1] (am_hh X S L) Q := by
  refine ax_in (ls := [some (.ref 5), some (.int (nI j)), some (.int 1)]) rfl ?_
  refine ax_s (pc' := 1) (st' := [.ref 5]) rfl rfl rfl rfl ?_
  refine ax_get rfl (hh_5 _ _ _) rfl rfl rfl ?_
  show am_ex (d + 30) 136 4 [some (.ref 5), some (.int (nI j)), some (.int 1)] [.ref 20] (am_hh X S L) _
  refine ax_s (pc' := 5) (st' := [.int (nI j), .ref 20]) rfl rfl rfl rfl ?_
  refine ax_call (vs := [.ref 20, .int (nI j)]) (rr := []) rfl rfl rfl ?_
  refine kw (am_hh_sub isW20 X S L) (am_hh_sub isW20 X S L).symm (fun _ => ct_hasParty (am_isW_k isW20 X S L)) ?_
  show am_ex (d + 30) 136 8 [some (.ref 5), some (.int (nI j)), some (.int 1)] [.int (bI (decide (¬ (nI j) < 0 ∧ ¬ (S 20 4) ≤ (nI j))))] (am_hh X S L) _
  refine ax_pF rfl (fun c1 => ?_) (fun c1 => ?_)
  · refine ax_s (pc' := 22) (st' := [.int (-1000001)]) rfl rfl rfl rfl ?_
    refine ax_r rfl rfl rfl ?_
    exact k1 c1
  · refine ax_s (pc' := 12) (st' := [.int 1]) rfl rfl rfl rfl ?_
    refine ax_s (pc' := 13) (st' := [.int 0, .int 1]) rfl rfl rfl rfl ?_
    refine ax_s (pc' := 14) (st' := [.int 1, .int 0, .int 1]) rfl rfl rfl rfl ?_
    refine ax_call (vs := [.int 1, .int 0, .int 1]) (rr := []) rfl rfl rfl ?_
    refine ct_isOutside ?_
    show am_ex (d + 30) 136 17 [some (.ref 5), some (.int (nI j)), some (.int 1)] [.int 0] (am_hh X S L) _
    refine ax_if_eq rfl (fun c2 => ?_) (fun c2 => False.elim (by revert c2; decide))
    refine ax_s (pc' := 24) (st' := [.ref 5]) rfl rfl rfl rfl ?_
    refine ax_get rfl (hh_5 _ _ _) rfl rfl rfl ?_
    show am_ex (d + 30) 136 27 [some (.ref 5), some (.int (nI j)), some (.int 1)] [.ref 283] (am_hh X S L) _
    refine ax_s (pc' := 28) (st' := [.int (nI j), .ref 283]) rfl rfl rfl rfl ?_
    refine ax_s (pc' := 29) (st' := [.int 1, .int (nI j), .ref 283]) rfl rfl rfl rfl ?_
    refine ax_call (vs := [.ref 283, .int (nI j), .int 1]) (rr := []) rfl rfl rfl ?_
    refine ax_in (ls := [some (.ref 283), some (.int (nI j)), some (.int 1)]) rfl ?_
    refine ax_s (pc' := 1) (st' := [.ref 283]) rfl rfl rfl rfl ?_
    refine ax_s (pc' := 2) (st' := [.int 0, .ref 283]) rfl rfl rfl rfl ?_
    refine ax_put rfl (hh_283 _ _ _) rfl rfl (show 2 + 1 ≤ _ from Nat.le_of_ble_eq_true rfl) rfl (am_hh_set _ _ _ 283 2 _ rfl) ?_
    refine ax_s (pc' := 6) (st' := [.ref 283]) rfl rfl rfl rfl ?_
    refine ax_s (pc' := 7) (st' := [.int (nI j), .ref 283]) rfl rfl rfl rfl ?_
    refine ax_s (pc' := 8) (st' := [.int 1, .int (nI j), .ref 283]) rfl rfl rfl rfl ?_
    refine ax_s (pc' := 9) (st' := [.int 0, .int 1, .int (nI j), .ref 283]) rfl rfl rfl rfl ?_
    refine ax_call (vs := [.ref 283, .int (nI j), .int 1, .int 0]) (rr := []) rfl rfl rfl ?_
    refine ax_in (ls := [some (.ref 283), some (.int (nI j)), some (.int 1), some (.int 0)]) rfl ?_
    refine ax_s (pc' := 1) (st' := [.ref 283]) rfl rfl rfl rfl ?_
    refine ax_s (pc' := 2) (st' := [.ref 283, .ref 283]) rfl rfl rfl rfl ?_
    refine ax_get rfl (hh_283 _ _ _) rfl rfl rfl ?_
    show am_ex (d + 28) 137 5 [some (.ref 283), some (.int (nI j)), some (.int 1), some (.int 0)] [.ref 20, .ref 283] (am_hh X (am_u S 283 2 0) L) _
    refine ax_get rfl (hh_20 _ _ _) rfl rfl rfl ?_
    show am_ex (d + 28) 137 8 [some (.ref 283), some (.int (nI j)), some (.int 1), some (.int 0)] [.ref 22, .ref 283] (am_hh X (am_u S 283 2 0) L) _
    refine ax_s (pc' := 9) (st' := [.int (nI j), .ref 22, .ref 283]) rfl rfl rfl rfl ?_
    refine ax_ald (j := j) (v := 5) rfl (hh_22 _ _ _) rfl rfl (x1 c1) (by decide) hk ?_
    refine ax_s (pc' := 11) (st' := [.int 1, .int 5, .ref 283]) rfl rfl rfl rfl ?_
    refine ax_if_ne rfl (fun c3 => ?_) (fun c3 => False.elim (by revert c3; decide))
    refine ax_s (pc' := 23) (st' := [.ref 4, .int 5, .ref 283]) rfl rfl rfl rfl ?_
    refine ax_call (vs := [.int 5, .ref 4]) (rr := [.ref 283]) rfl rfl rfl ?_
    refine ax_in (ls := [some (.int 5), some (.ref 4), none, none]) rfl ?_
    refine ax_s (pc' := 1) (st' := [.int 5]) rfl rfl rfl rfl ?_
    refine ax_s (pc' := 2) (ls' := [some (.int 5), some (.ref 4), some (.int 5), none]) (st' := []) rfl rfl rfl rfl ?_
    refine ax_s (pc' := 3) (st' := [.int 0]) rfl rfl rfl rfl ?_
    refine ax_s (pc' := 4) (ls' := [some (.int 5), some (.ref 4), some (.int 5), some (.int 0)]) (st' := []) rfl rfl rfl rfl ?_
    refine ax_s (pc' := 5) (st' := [.int 0]) rfl rfl rfl rfl ?_
    refine ax_s (pc' := 6) (st' := [.int 5, .int 0]) rfl rfl rfl rfl ?_
    refine ax_cmp_gt rfl (fun c4 => False.elim (by revert c4; decide)) (fun c4 => ?_)
    refine ax_s (pc' := 10) (st' := [.int 5]) rfl rfl rfl rfl ?_
    refine ax_call (vs := [.int 5]) (rr := []) rfl rfl rfl ?_
    refine ax_in (ls := [some (.int 5)]) rfl ?_
    refine ax_s (pc' := 1) (st' := [.int 5]) rfl rfl rfl rfl ?_
    refine ax_if_lt rfl (fun c5 => False.elim (by revert c5; decide)) (fun c5 => ?_)
    refine ax_s (pc' := 5) (st' := [.int 5]) rfl rfl rfl rfl ?_
    refine ax_s (pc' := 6) (st' := [.int 5, .int 5]) rfl rfl rfl rfl ?_
    refine ax_cmp_gt rfl (fun c6 => False.elim (by revert c6; decide)) (fun c6 => ?_)
    refine ax_s (pc' := 10) (st' := [.int 1]) rfl rfl rfl rfl ?_
    refine ax_s (pc' := 14) (st' := [.int 1]) rfl rfl rfl rfl ?_
    refine ax_rb (b := true) rfl rfl ?_
    show am_ex (d + 27) 138 13 [some (.int 5), some (.ref 4), some (.int 5), some (.int 0)] [.int 1] (am_hh X (am_u S 283 2 0) L) _
    refine ax_if_eq rfl (fun c7 => False.elim (by revert c7; decide)) (fun c7 => ?_)
    refine ax_s (pc' := 17) (st' := [.ref 4]) rfl rfl rfl rfl ?_
    refine ax_s (pc' := 18) (st' := [.int 5, .ref 4]) rfl rfl rfl rfl ?_
    refine ax_ald (j := 5) (v := (-1000000)) rfl (hh_s4 _ _ _) rfl rfl (by decide) (by decide) rfl ?_
    refine ax_s (pc' := 21) (st' := [.int (-1000000), .int (-1000000)]) rfl rfl rfl rfl ?_
    refine ax_cmp_eq rfl (fun c8 => ?_) (fun c8 => False.elim (by revert c8; decide))
    refine ax_s (pc' := 31) (st' := [.ref 2]) rfl rfl rfl rfl ?_
    refine ax_s (pc' := 32) (st' := [.int 5, .ref 2]) rfl rfl rfl rfl ?_
    refine ax_ald (j := 5) (v := 4) rfl (hh_s2 _ _ _) rfl rfl (by decide) (by decide) rfl ?_
    refine ax_s (pc' := 34) (ls' := [some (.int 5), some (.ref 4), some (.int 4), some (.int 0)]) (st' := []) rfl rfl rfl rfl ?_
    refine ax_s (pc' := 37) (ls' := [some (.int 5), some (.ref 4), some (.int 4), some (.int 1)]) (st' := []) rfl rfl rfl rfl ?_
    refine ax_s (pc' := 4) (st' := []) rfl rfl rfl rfl ?_
    refine ax_s (pc' := 5) (st' := [.int 1]) rfl rfl rfl rfl ?_
    refine ax_s (pc' := 6) (st' := [.int 5, .int 1]) rfl rfl rfl rfl ?_
    refine ax_cmp_gt rfl (fun c9 => False.elim (by revert c9; decide)) (fun c9 => ?_)
    refine ax_s (pc' := 10) (st' := [.int 4]) rfl rfl rfl rfl ?_
    refine ax_call (vs := [.int 4]) (rr := []) rfl rfl rfl ?_
    refine ax_in (ls := [some (.int 4)]) rfl ?_
    refine ax_s (pc' := 1) (st' := [.int 4]) rfl rfl rfl rfl ?_
    refine ax_if_lt rfl (fun c10 => False.elim (by revert c10; decide)) (fun c10 => ?_)
    refine ax_s (pc' := 5) (st' := [.int 4]) rfl rfl rfl rfl ?_
    refine ax_s (pc' := 6) (st' := [.int 5, .int 4]) rfl rfl rfl rfl ?_
    refine ax_cmp_gt rfl (fun c11 => False.elim (by revert c11; decide)) (fun c11 => ?_)
    refine ax_s (pc' := 10) (st' := [.int 1]) rfl rfl rfl rfl ?_
    refine ax_s (pc' := 14) (st' := [.int 1]) rfl rfl rfl rfl ?_
    refine ax_rb (b := true) rfl rfl ?_
    show am_ex (d + 27) 138 13 [some (.int 5), some (.ref 4), some (.int 4), some (.int 1)] [.int 1] (am_hh X (am_u S 283 2 0) L) _
    refine ax_if_eq rfl (fun c12 => False.elim (by revert c12; decide)) (fun c12 => ?_)
    refine ax_s (pc' := 17) (st' := [.ref 4]) rfl rfl rfl rfl ?_
    refine ax_s (pc' := 18) (st' := [.int 4, .ref 4]) rfl rfl rfl rfl ?_
    refine ax_ald (j := 4) (v := 23) rfl (hh_s4 _ _ _) rfl rfl (by decide) (by decide) rfl ?_
    refine ax_s (pc' := 21) (st' := [.int (-1000000), .int 23]) rfl rfl rfl rfl ?_
    refine ax_cmp_eq rfl (fun c13 => False.elim (by revert c13; decide)) (fun c13 => ?_)
    refine ax_s (pc' := 25) (st' := [.ref 4]) rfl rfl rfl rfl ?_
    refine ax_s (pc' := 26) (st' := [.int 4, .ref 4]) rfl rfl rfl rfl ?_
    refine ax_ald (j := 4) (v := 23) rfl (hh_s4 _ _ _) rfl rfl (by decide) (by decide) rfl ?_
    refine ax_r rfl rfl rfl ?_
    show am_ex (d + 28) 137 26 [some (.ref 283), some (.int (nI j)), some (.int 1), some (.int 0)] [.int 23, .ref 283] (am_hh X (am_u S 283 2 0) L) _
    refine ax_s (pc' := 27) (st' := [.int (nI j), .int 23, .ref 283]) rfl rfl rfl rfl ?_
    refine ax_s (pc' := 28) (st' := [.int 0, .int (nI j), .int 23, .ref 283]) rfl rfl rfl rfl ?_
    refine ax_call (vs := [.ref 283, .int 23, .int (nI j), .int 0]) (rr := []) rfl rfl rfl ?_
    refine ax_in (ls := [some (.ref 283), some (.int 23), some (.int (nI j)), some (.int 0), none]) rfl ?_
    refine ax_s (pc' := 1) (st' := [.int 0]) rfl rfl rfl rfl ?_
    refine ax_s (pc' := 3) (st' := [.int 16, .int 0]) rfl rfl rfl rfl ?_
    refine ax_cmp_le rfl (fun c14 => ?_) (fun c14 => False.elim (by revert c14; decide))
    refine ax_s (pc' := 10) (st' := [.ref 283]) rfl rfl rfl rfl ?_
    refine ax_s (pc' := 11) (st' := [.int 23, .ref 283]) rfl rfl rfl rfl ?_
    refine ax_call (vs := [.ref 283, .int 23]) (rr := []) rfl rfl rfl ?_
    refine ax_in (ls := [some (.ref 283), some (.int 23)]) rfl ?_
    refine ax_s (pc' := 1) (st' := [.ref 283]) rfl rfl rfl rfl ?_
    refine ax_get rfl (hh_283 _ _ _) rfl rfl rfl ?_
    show am_ex (d + 26) 140 4 [some (.ref 283), some (.int 23)] [.int 0] (am_hh X (am_u S 283 2 0) L) _
    refine ax_if_lt rfl (fun c15 => False.elim (by revert c15; decide)) (fun c15 => ?_)
    refine ax_s (pc' := 8) (st' := [.ref 283]) rfl rfl rfl rfl ?_
    refine ax_get rfl (hh_283 _ _ _) rfl rfl rfl ?_
    show am_ex (d + 26) 140 11 [some (.ref 283), some (.int 23)] [.int 0] (am_hh X (am_u S 283 2 0) L) _
    refine ax_s (pc' := 13) (st' := [.int 16, .int 0]) rfl rfl rfl rfl ?_
    refine ax_cmp_ge rfl (fun c16 => False.elim (by revert c16; decide)) (fun c16 => ?_)
    refine ax_s (pc' := 17) (st' := [.ref 283]) rfl rfl rfl rfl ?_
    refine ax_get rfl (hh_283 _ _ _) rfl rfl rfl ?_
    show am_ex (d + 26) 140 20 [some (.ref 283), some (.int 23)] [.ref 284] (am_hh X (am_u S 283 2 0) L) _
    refine ax_s (pc' := 21) (st' := [.ref 283, .ref 284]) rfl rfl rfl rfl ?_
    refine ax_get rfl (hh_283 _ _ _) rfl rfl rfl ?_
    show am_ex (d + 26) 140 24 [some (.ref 283), some (.int 23)] [.int 0, .ref 284] (am_hh X (am_u S 283 2 0) L) _
    refine ax_s (pc' := 25) (st' := [.int 23, .int 0, .ref 284]) rfl rfl rfl rfl ?_
    refine ax_ast (j := 0) rfl (hh_284 _ _ _) rfl rfl (by decide) (by decide) (am_hh_set _ _ _ 284 0 _ rfl) ?_
    refine ax_s (pc' := 27) (st' := [.ref 283]) rfl rfl rfl rfl ?_
    refine ax_s (pc' := 28) (st' := [.ref 283, .ref 283]) rfl rfl rfl rfl ?_
    refine ax_get rfl (hh_283 _ _ _) rfl rfl rfl ?_
    show am_ex (d + 26) 140 31 [some (.ref 283), some (.int 23)] [.int 0, .ref 283] (am_hh X (am_u (am_u S 283 2 0) 284 0 23) L) _
    refine ax_s (pc' := 32) (st' := [.int 1, .int 0, .ref 283]) rfl rfl rfl rfl ?_
    refine ax_s (pc' := 33) (st' := [.int 1, .ref 283]) rfl rfl rfl rfl ?_
    refine ax_put rfl (hh_283 _ _ _) rfl rfl (show 2 + 1 ≤ _ from Nat.le_of_ble_eq_true rfl) rfl (am_hh_set _ _ _ 283 2 _ rfl) ?_
    refine ax_r rfl rfl rfl ?_
    show am_ex (d + 27) 139 14 [some (.ref 283), some (.int 23), some (.int (nI j)), some (.int 0), none] [] (am_hh X (am_u (am_u (am_u S 283 2 0) 284 0 23) 283 2 1) L) _
    refine ax_s (pc' := 15) (st' := [.int 0]) rfl rfl rfl rfl ?_
    refine ax_s (pc' := 16) (st' := [.int 1, .int 0]) rfl rfl rfl rfl ?_
    refine ax_s (pc' := 17) (st' := [.int 1]) rfl rfl rfl rfl ?_
    refine ax_s (pc' := 19) (ls' := [some (.ref 283), some (.int 23), some (.int (nI j)), some (.int 0), some (.int 1)]) (st' := []) rfl rfl rfl rfl ?_
    refine ax_s (pc' := 20) (st' := [.int 23]) rfl rfl rfl rfl ?_
    refine ax_s (pc' := 198) (ls' := [some (.ref 283), some (.int 23), some (.int (nI j)), some (.int 0), some (.int 1)]) (st' := []) (h1 := (am_hh X (am_u (am_u (am_u S 283 2 0) 284 0 23) 283 2 1) L)) rfl rfl rfl rfl ?_
    refine ax_s (pc' := 199) (st' := [.ref 283]) rfl rfl rfl rfl ?_
    refine ax_s (pc' := 201) (st' := [.int 20, .ref 283]) rfl rfl rfl rfl ?_
    refine ax_s (pc' := 202) (st' := [.int (nI j), .int 20, .ref 283]) rfl rfl rfl rfl ?_
    refine ax_s (pc' := 204) (st' := [.int 1, .int (nI j), .int 20, .ref 283]) rfl rfl rfl rfl ?_
    refine ax_call (vs := [.ref 283, .int 20, .int (nI j), .int 1]) (rr := []) rfl rfl rfl ?_
    refine ax_in (ls := [some (.ref 283), some (.int 20), some (.int (nI j)), some (.int 1), none]) rfl ?_
    refine ax_s (pc' := 1) (st' := [.int 1]) rfl rfl rfl rfl ?_
    refine ax_s (pc' := 3) (st' := [.int 16, .int 1]) rfl rfl rfl rfl ?_
    refine ax_cmp_le rfl (fun c17 => ?_) (fun c17 => False.elim (by revert c17; decide))
    refine ax_s (pc' := 10) (st' := [.ref 283]) rfl rfl rfl rfl ?_
    refine ax_s (pc' := 11) (st' := [.int 20, .ref 283]) rfl rfl rfl rfl ?_
    refine ax_call (vs := [.ref 283, .int 20]) (rr := []) rfl rfl rfl ?_
    refine ax_in (ls := [some (.ref 283), some (.int 20)]) rfl ?_
    refine ax_s (pc' := 1) (st' := [.ref 283]) rfl rfl rfl rfl ?_
    refine ax_get rfl (hh_283 _ _ _) rfl rfl rfl ?_
    show am_ex (d + 25) 140 4 [some (.ref 283), some (.int 20)] [.int 1] (am_hh X (am_u (am_u (am_u S 283 2 0) 284 0 23) 283 2 1) L) _
    refine ax_if_lt rfl (fun c18 => False.elim (by revert c18; decide)) (fun c18 => ?_)
    refine ax_s (pc' := 8) (st' := [.ref 283]) rfl rfl rfl rfl ?_
    refine ax_get rfl (hh_283 _ _ _) rfl rfl rfl ?_
    show am_ex (d + 25) 140 11 [some (.ref 283), some (.int 20)] [.int 1] (am_hh X (am_u (am_u (am_u S 283 2 0) 284 0 23) 283 2 1) L) _
    refine ax_s (pc' := 13) (st' := [.int 16, .int 1]) rfl rfl rfl rfl ?_
    refine ax_cmp_ge rfl (fun c19 => False.elim (by revert c19; decide)) (fun c19 => ?_)
    refine ax_s (pc' := 17) (st' := [.ref 283]) rfl rfl rfl rfl ?_
    refine ax_get rfl (hh_283 _ _ _) rfl rfl rfl ?_
    show am_ex (d + 25) 140 20 [some (.ref 283), some (.int 20)] [.ref 284] (am_hh X (am_u (am_u (am_u S 283 2 0) 284 0 23) 283 2 1) L) _
    refine ax_s (pc' := 21) (st' := [.ref 283, .ref 284]) rfl rfl rfl rfl ?_
    refine ax_get rfl (hh_283 _ _ _) rfl rfl rfl ?_
    show am_ex (d + 25) 140 24 [some (.ref 283), some (.int 20)] [.int 1, .ref 284] (am_hh X (am_u (am_u (am_u S 283 2 0) 284 0 23) 283 2 1) L) _
    refine ax_s (pc' := 25) (st' := [.int 20, .int 1, .ref 284]) rfl rfl rfl rfl ?_
    refine ax_ast (j := 1) rfl (hh_284 _ _ _) rfl rfl (by decide) (by decide) (am_hh_set _ _ _ 284 1 _ rfl) ?_
    refine ax_s (pc' := 27) (st' := [.ref 283]) rfl rfl rfl rfl ?_
    refine ax_s (pc' := 28) (st' := [.ref 283, .ref 283]) rfl rfl rfl rfl ?_
    refine ax_get rfl (hh_283 _ _ _) rfl rfl rfl ?_
    show am_ex (d + 25) 140 31 [some (.ref 283), some (.int 20)] [.int 1, .ref 283] (am_hh X (am_u (am_u (am_u (am_u S 283 2 0) 284 0 23) 283 2 1) 284 1 20) L) _
    refine ax_s (pc' := 32) (st' := [.int 1, .int 1, .ref 283]) rfl rfl rfl rfl ?_
    refine ax_s (pc' := 33) (st' := [.int 2, .ref 283]) rfl rfl rfl rfl ?_
    refine ax_put rfl (hh_283 _ _ _) rfl rfl (show 2 + 1 ≤ _ from Nat.le_of_ble_eq_true rfl) rfl (am_hh_set _ _ _ 283 2 _ rfl) ?_
    refine ax_r rfl rfl rfl ?_
    show am_ex (d + 26) 139 14 [some (.ref 283), some (.int 20), some (.int (nI j)), some (.int 1), none] [] (am_hh X (am_u (am_u (am_u (am_u (am_u S 283 2 0) 284 0 23) 283 2 1) 284 1 20) 283 2 2) L) _
    refine ax_s (pc' := 15) (st' := [.int 1]) rfl rfl rfl rfl ?_
    refine ax_s (pc' := 16) (st' := [.int 1, .int 1]) rfl rfl rfl rfl ?_
    refine ax_s (pc' := 17) (st' := [.int 2]) rfl rfl rfl rfl ?_
    refine ax_s (pc' := 19) (ls' := [some (.ref 283), some (.int 20), some (.int (nI j)), some (.int 1), some (.int 2)]) (st' := []) rfl rfl rfl rfl ?_
    refine ax_s (pc' := 20) (st' := [.int 20]) rfl rfl rfl rfl ?_
    refine ax_s (pc' := 162) (ls' := [some (.ref 283), some (.int 20), some (.int (nI j)), some (.int 1), some (.int 2)]) (st' := []) (h1 := (am_hh X (am_u (am_u (am_u (am_u (am_u S 283 2 0) 284 0 23) 283 2 1) 284 1 20) 283 2 2) L)) rfl rfl rfl rfl ?_
    refine ax_s (pc' := 163) (st' := [.int (nI j)]) rfl rfl rfl rfl ?_
    refine ax_r rfl rfl rfl ?_
    show am_ex (d + 27) 139 207 [some (.ref 283), some (.int 23), some (.int (nI j)), some (.int 0), some (.int 1)] [.int (nI j)] (am_hh X (am_u (am_u (am_u (am_u (am_u S 283 2 0) 284 0 23) 283 2 1) 284 1 20) 283 2 2) L) _
    refine ax_s (pc' := 208) (st' := [.ref 283, .int (nI j)]) rfl rfl rfl rfl ?_
    refine ax_s (pc' := 209) (st' := [.int (nI j), .ref 283, .int (nI j)]) rfl rfl rfl rfl ?_
    refine ax_s (pc' := 210) (st' := [.int 0, .int (nI j), .ref 283, .int (nI j)]) rfl rfl rfl rfl ?_
    refine ax_s (pc' := 212) (st' := [.int 1, .int 0, .int (nI j), .ref 283, .int (nI j)]) rfl rfl rfl rfl ?_
    refine ax_call (vs := [.ref 283, .int (nI j), .int 0, .int 1]) (rr := [.int (nI j)]) rfl rfl rfl ?_
    refine ax_in (ls := [some (.ref 283), some (.int (nI j)), some (.int 0), some (.int 1)]) rfl ?_
    refine ax_s (pc' := 1) (st' := [.ref 283]) rfl rfl rfl rfl ?_
    refine ax_s (pc' := 2) (st' := [.ref 283, .ref 283]) rfl rfl rfl rfl ?_
    refine ax_get rfl (hh_283 _ _ _) rfl rfl rfl ?_
    show am_ex (d + 26) 137 5 [some (.ref 283), some (.int (nI j)), some (.int 0), some (.int 1)] [.ref 20, .ref 283] (am_hh X (am_u (am_u (am_u (am_u (am_u S 283 2 0) 284 0 23) 283 2 1) 284 1 20) 283 2 2) L) _
    refine ax_get rfl (hh_20 _ _ _) rfl rfl rfl ?_
    show am_ex (d + 26) 137 8 [some (.ref 283), some (.int (nI j)), some (.int 0), some (.int 1)] [.ref 22, .ref 283] (am_hh X (am_u (am_u (am_u (am_u (am_u S 283 2 0) 284 0 23) 283 2 1) 284 1 20) 283 2 2) L) _
    refine ax_s (pc' := 9) (st' := [.int (nI j), .ref 22, .ref 283]) rfl rfl rfl rfl ?_
    refine ax_ald (j := j) (v := 5) rfl (hh_22 _ _ _) rfl rfl (x1 c1) (by decide) hk ?_
    refine ax_s (pc' := 11) (st' := [.int 0, .int 5, .ref 283]) rfl rfl rfl rfl ?_
    refine ax_if_ne rfl (fun c20 => False.elim (by revert c20; decide)) (fun c20 => ?_)
    refine ax_s (pc' := 17) (st' := [.ref 3, .int 5, .ref 283]) rfl rfl rfl rfl ?_
    refine ax_s (pc' := 23) (st' := [.ref 3, .int 5, .ref 283]) rfl rfl rfl rfl ?_
    refine ax_call (vs := [.int 5, .ref 3]) (rr := [.ref 283]) rfl rfl rfl ?_
    refine ax_in (ls := [some (.int 5), some (.ref 3), none, none]) rfl ?_
    refine ax_s (pc' := 1) (st' := [.int 5]) rfl rfl rfl rfl ?_
    refine ax_s (pc' := 2) (ls' := [some (.int 5), some (.ref 3), some (.int 5), none]) (st' := []) rfl rfl rfl rfl ?_
    refine ax_s (pc' := 3) (st' := [.int 0]) rfl rfl rfl rfl ?_
    refine ax_s (pc' := 4) (ls' := [some (.int 5), some (.ref 3), some (.int 5), some (.int 0)]) (st' := []) rfl rfl rfl rfl ?_
    refine ax_s (pc' := 5) (st' := [.int 0]) rfl rfl rfl rfl ?_
    refine ax_s (pc' := 6) (st' := [.int 5, .int 0]) rfl rfl rfl rfl ?_
    refine ax_cmp_gt rfl (fun c21 => False.elim (by revert c21; decide)) (fun c21 => ?_)
    refine ax_s (pc' := 10) (st' := [.int 5]) rfl rfl rfl rfl ?_
    refine ax_call (vs := [.int 5]) (rr := []) rfl rfl rfl ?_
    refine ax_in (ls := [some (.int 5)]) rfl ?_
    refine ax_s (pc' := 1) (st' := [.int 5]) rfl rfl rfl rfl ?_
    refine ax_if_lt rfl (fun c22 => False.elim (by revert c22; decide)) (fun c22 => ?_)
    refine ax_s (pc' := 5) (st' := [.int 5]) rfl rfl rfl rfl ?_
    refine ax_s (pc' := 6) (st' := [.int 5, .int 5]) rfl rfl rfl rfl ?_
    refine ax_cmp_gt rfl (fun c23 => False.elim (by revert c23; decide)) (fun c23 => ?_)
    refine ax_s (pc' := 10) (st' := [.int 1]) rfl rfl rfl rfl ?_
    refine ax_s (pc' := 14) (st' := [.int 1]) rfl rfl rfl rfl ?_
    refine ax_rb (b := true) rfl rfl ?_
    show am_ex (d + 25) 138 13 [some (.int 5), some (.ref 3), some (.int 5), some (.int 0)] [.int 1] (am_hh X (am_u (am_u (am_u (am_u (am_u S 283 2 0) 284 0 23) 283 2 1) 284 1 20) 283 2 2) L) _
    refine ax_if_eq rfl (fun c24 => False.elim (by revert c24; decide)) (fun c24 => ?_)
    refine ax_s (pc' := 17) (st' := [.ref 3]) rfl rfl rfl rfl ?_
    refine ax_s (pc' := 18) (st' := [.int 5, .ref 3]) rfl rfl rfl rfl ?_
    refine ax_ald (j := 5) (v := 14) rfl (hh_s3 _ _ _) rfl rfl (by decide) (by decide) rfl ?_
    refine ax_s (pc' := 21) (st' := [.int (-1000000), .int 14]) rfl rfl rfl rfl ?_
    refine ax_cmp_eq rfl (fun c25 => False.elim (by revert c25; decide)) (fun c25 => ?_)
    refine ax_s (pc' := 25) (st' := [.ref 3]) rfl rfl rfl rfl ?_
    refine ax_s (pc' := 26) (st' := [.int 5, .ref 3]) rfl rfl rfl rfl ?_
    refine ax_ald (j := 5) (v := 14) rfl (hh_s3 _ _ _) rfl rfl (by decide) (by decide) rfl ?_
    refine ax_r rfl rfl rfl ?_
    show am_ex (d + 26) 137 26 [some (.ref 283), some (.int (nI j)), some (.int 0), some (.int 1)] [.int 14, .ref 283] (am_hh X (am_u (am_u (am_u (am_u (am_u S 283 2 0) 284 0 23) 283 2 1) 284 1 20) 283 2 2) L) _
    refine ax_s (pc' := 27) (st' := [.int (nI j), .int 14, .ref 283]) rfl rfl rfl rfl ?_
    refine ax_s (pc' := 28) (st' := [.int 1, .int (nI j), .int 14, .ref 283]) rfl rfl rfl rfl ?_
    refine ax_call (vs := [.ref 283, .int 14, .int (nI j), .int 1]) (rr := []) rfl rfl rfl ?_
    refine ax_in (ls := [some (.ref 283), some (.int 14), some (.int (nI j)), some (.int 1), none]) rfl ?_
    refine ax_s (pc' := 1) (st' := [.int 1]) rfl rfl rfl rfl ?_
    refine ax_s (pc' := 3) (st' := [.int 16, .int 1]) rfl rfl rfl rfl ?_
    refine ax_cmp_le rfl (fun c26 => ?_) (fun c26 => False.elim (by revert c26; decide))
    refine ax_s (pc' := 10) (st' := [.ref 283]) rfl rfl rfl rfl ?_
    refine ax_s (pc' := 11) (st' := [.int 14, .ref 283]) rfl rfl rfl rfl ?_
    refine ax_call (vs := [.ref 283, .int 14]) (rr := []) rfl rfl rfl ?_
    refine ax_in (ls := [some (.ref 283), some (.int 14)]) rfl ?_
    refine ax_s (pc' := 1) (st' := [.ref 283]) rfl rfl rfl rfl ?_
    refine ax_get rfl (hh_283 _ _ _) rfl rfl rfl ?_
    show am_ex (d + 24) 140 4 [some (.ref 283), some (.int 14)] [.int 2] (am_hh X (am_u (am_u (am_u (am_u (am_u S 283 2 0) 284 0 23) 283 2 1) 284 1 20) 283 2 2) L) _
    refine ax_if_lt rfl (fun c27 => False.elim (by revert c27; decide)) (fun c27 => ?_)
    refine ax_s (pc' := 8) (st' := [.ref 283]) rfl rfl rfl rfl ?_
    refine ax_get rfl (hh_283 _ _ _) rfl rfl rfl ?_
    show am_ex (d + 24) 140 11 [some (.ref 283), some (.int 14)] [.int 2] (am_hh X (am_u (am_u (am_u (am_u (am_u S 283 2 0) 284 0 23) 283 2 1) 284 1 20) 283 2 2) L) _
    refine ax_s (pc' := 13) (st' := [.int 16, .int 2]) rfl rfl rfl rfl ?_
    refine ax_cmp_ge rfl (fun c28 => False.elim (by revert c28; decide)) (fun c28 => ?_)
    refine ax_s (pc' := 17) (st' := [.ref 283]) rfl rfl rfl rfl ?_
    refine ax_get rfl (hh_283 _ _ _) rfl rfl rfl ?_
    show am_ex (d + 24) 140 20 [some (.ref 283), some (.int 14)] [.ref 284] (am_hh X (am_u (am_u (am_u (am_u (am_u S 283 2 0) 284 0 23) 283 2 1) 284 1 20) 283 2 2) L) _
    refine ax_s (pc' := 21) (st' := [.ref 283, .ref 284]) rfl rfl rfl rfl ?_
    refine ax_get rfl (hh_283 _ _ _) rfl rfl rfl ?_
    show am_ex (d + 24) 140 24 [some (.ref 283), some (.int 14)] [.int 2, .ref 284] (am_hh X (am_u (am_u (am_u (am_u (am_u S 283 2 0) 284 0 23) 283 2 1) 284 1 20) 283 2 2) L) _
    refine ax_s (pc' := 25) (st' := [.int 14, .int 2, .ref 284]) rfl rfl rfl rfl ?_
    refine ax_ast (j := 2) rfl (hh_284 _ _ _) rfl rfl (by decide) (by decide) (am_hh_set _ _ _ 284 2 _ rfl) ?_
    refine ax_s (pc' := 27) (st' := [.ref 283]) rfl rfl rfl rfl ?_
    refine ax_s (pc' := 28) (st' := [.ref 283, .ref 283]) rfl rfl rfl rfl ?_
    refine ax_get rfl (hh_283 _ _ _) rfl rfl rfl ?_
    show am_ex (d + 24) 140 31 [some (.ref 283), some (.int 14)] [.int 2, .ref 283] (am_hh X (am_u (am_u (am_u (am_u (am_u (am_u S 283 2 0) 284 0 23) 283 2 1) 284 1 20) 283 2 2) 284 2 14) L) _
    refine ax_s (pc' := 32) (st' := [.int 1, .int 2, .ref 283]) rfl rfl rfl rfl ?_
    refine ax_s (pc' := 33) (st' := [.int 3, .ref 283]) rfl rfl rfl rfl ?_
    refine ax_put rfl (hh_283 _ _ _) rfl rfl (show 2 + 1 ≤ _ from Nat.le_of_ble_eq_true rfl) rfl (am_hh_set _ _ _ 283 2 _ rfl) ?_
    refine ax_r rfl rfl rfl ?_
    show am_ex (d + 25) 139 14 [some (.ref 283), some (.int 14), some (.int (nI j)), some (.int 1), none] [] (am_hh X (am_u (am_u (am_u (am_u (am_u (am_u (am_u S 283 2 0) 284 0 23) 283 2 1) 284 1 20) 283 2 2) 284 2 14) 283 2 3) L) _
    refine ax_s (pc' := 15) (st' := [.int 1]) rfl rfl rfl rfl ?_
    refine ax_s (pc' := 16) (st' := [.int 1, .int 1]) rfl rfl rfl rfl ?_
    refine ax_s (pc' := 17) (st' := [.int 2]) rfl rfl rfl rfl ?_
    refine ax_s (pc' := 19) (ls' := [some (.ref 283), some (.int 14), some (.int (nI j)), some (.int 1), some (.int 2)]) (st' := []) rfl rfl rfl rfl ?_
    refine ax_s (pc' := 20) (st' := [.int 14]) rfl rfl rfl rfl ?_
    refine ax_s (pc' := 150) (ls' := [some (.ref 283), some (.int 14), some (.int (nI j)), some (.int 1), some (.int 2)]) (st' := []) (h1 := (am_hh X (am_u (am_u (am_u (am_u (am_u (am_u (am_u S 283 2 0) 284 0 23) 283 2 1) 284 1 20) 283 2 2) 284 2 14) 283 2 3) L)) rfl rfl rfl rfl ?_
    refine ax_s (pc' := 151) (st' := [.int 2]) rfl rfl rfl rfl ?_
    refine ax_s (pc' := 152) (st' := [.ref 283, .int 2]) rfl rfl rfl rfl ?_
    refine ax_s (pc' := 154) (st' := [.int 13, .ref 283, .int 2]) rfl rfl rfl rfl ?_
    refine ax_s (pc' := 155) (st' := [.int (nI j), .int 13, .ref 283, .int 2]) rfl rfl rfl rfl ?_
    refine ax_s (pc' := 157) (st' := [.int 2, .int (nI j), .int 13, .ref 283, .int 2]) rfl rfl rfl rfl ?_
    refine ax_call (vs := [.ref 283, .int 13, .int (nI j), .int 2]) (rr := [.int 2]) rfl rfl rfl ?_
    refine ax_in (ls := [some (.ref 283), some (.int 13), some (.int (nI j)), some (.int 2), none]) rfl ?_
    refine ax_s (pc' := 1) (st' := [.int 2]) rfl rfl rfl rfl ?_
    refine ax_s (pc' := 3) (st' := [.int 16, .int 2]) rfl rfl rfl rfl ?_
    refine ax_cmp_le rfl (fun c29 => ?_) (fun c29 => False.elim (by revert c29; decide))
    refine ax_s (pc' := 10) (st' := [.ref 283]) rfl rfl rfl rfl ?_
    refine ax_s (pc' := 11) (st' := [.int 13, .ref 283]) rfl rfl rfl rfl ?_
    refine ax_call (vs := [.ref 283, .int 13]) (rr := []) rfl rfl rfl ?_
    refine ax_in (ls := [some (.ref 283), some (.int 13)]) rfl ?_
    refine ax_s (pc' := 1) (st' := [.ref 283]) rfl rfl rfl rfl ?_
    refine ax_get rfl (hh_283 _ _ _) rfl rfl rfl ?_
    show am_ex (d + 23) 140 4 [some (.ref 283), some (.int 13)] [.int 3] (am_hh X (am_u (am_u (am_u (am_u (am_u (am_u (am_u S 283 2 0) 284 0 23) 283 2 1) 284 1 20) 283 2 2) 284 2 14) 283 2 3) L) _
    refine ax_if_lt rfl (fun c30 => False.elim (by revert c30; decide)) (fun c30 => ?_)
    refine ax_s (pc' := 8) (st' := [.ref 283]) rfl rfl rfl rfl ?_
    refine ax_get rfl (hh_283 _ _ _) rfl rfl rfl ?_
    show am_ex (d + 23) 140 11 [some (.ref 283), some (.int 13)] [.int 3] (am_hh X (am_u (am_u (am_u (am_u (am_u (am_u (am_u S 283 2 0) 284 0 23) 283 2 1) 284 1 20) 283 2 2) 284 2 14) 283 2 3) L) _
    refine ax_s (pc' := 13) (st' := [.int 16, .int 3]) rfl rfl rfl rfl ?_
    refine ax_cmp_ge rfl (fun c31 => False.elim (by revert c31; decide)) (fun c31 => ?_)
    refine ax_s (pc' := 17) (st' := [.ref 283]) rfl rfl rfl rfl ?_
    refine ax_get rfl (hh_283 _ _ _) rfl rfl rfl ?_
    show am_ex (d + 23) 140 20 [some (.ref 283), some (.int 13)] [.ref 284] (am_hh X (am_u (am_u (am_u (am_u (am_u (am_u (am_u S 283 2 0) 284 0 23) 283 2 1) 284 1 20) 283 2 2) 284 2 14) 283 2 3) L) _
    refine ax_s (pc' := 21) (st' := [.ref 283, .ref 284]) rfl rfl rfl rfl ?_
    refine ax_get rfl (hh_283 _ _ _) rfl rfl rfl ?_
    show am_ex (d + 23) 140 24 [some (.ref 283), some (.int 13)] [.int 3, .ref 284] (am_hh X (am_u (am_u (am_u (am_u (am_u (am_u (am_u S 283 2 0) 284 0 23) 283 2 1) 284 1 20) 283 2 2) 284 2 14) 283 2 3) L) _
    refine ax_s (pc' := 25) (st' := [.int 13, .int 3, .ref 284]) rfl rfl rfl rfl ?_
    refine ax_ast (j := 3) rfl (hh_284 _ _ _) rfl rfl (by decide) (by decide) (am_hh_set _ _ _ 284 3 _ rfl) ?_
    refine ax_s (pc' := 27) (st' := [.ref 283]) rfl rfl rfl rfl ?_
    refine ax_s (pc' := 28) (st' := [.ref 283, .ref 283]) rfl rfl rfl rfl ?_
    refine ax_get rfl (hh_283 _ _ _) rfl rfl rfl ?_
    show am_ex (d + 23) 140 31 [some (.ref 283), some (.int 13)] [.int 3, .ref 283] (am_hh X (am_u (am_u (am_u (am_u (am_u (am_u (am_u (am_u S 283 2 0) 284 0 23) 283 2 1) 284 1 20) 283 2 2) 284 2 14) 283 2 3) 284 3 13) L) _
    refine ax_s (pc' := 32) (st' := [.int 1, .int 3, .ref 283]) rfl rfl rfl rfl ?_
    refine ax_s (pc' := 33) (st' := [.int 4, .ref 283]) rfl rfl rfl rfl ?_
    refine ax_put rfl (hh_283 _ _ _) rfl rfl (show 2 + 1 ≤ _ from Nat.le_of_ble_eq_true rfl) rfl (am_hh_set _ _ _ 283 2 _ rfl) ?_
    refine ax_r rfl rfl rfl ?_
    show am_ex (d + 24) 139 14 [some (.ref 283), some (.int 13), some (.int (nI j)), some (.int 2), none] [] (am_hh X (am_u (am_u (am_u (am_u (am_u (am_u (am_u (am_u (am_u S 283 2 0) 284 0 23) 283 2 1) 284 1 20) 283 2 2) 284 2 14) 283 2 3) 284 3 13) 283 2 4) L) _
    refine ax_s (pc' := 15) (st' := [.int 2]) rfl rfl rfl rfl ?_
    refine ax_s (pc' := 16) (st' := [.int 1, .int 2]) rfl rfl rfl rfl ?_
    refine ax_s (pc' := 17) (st' := [.int 3]) rfl rfl rfl rfl ?_
    refine ax_s (pc' := 19) (ls' := [some (.ref 283), some (.int 13), some (.int (nI j)), some (.int 2), some (.int 3)]) (st' := []) rfl rfl rfl rfl ?_
    refine ax_s (pc' := 20) (st' := [.int 13]) rfl rfl rfl rfl ?_
    refine ax_s (pc' := 137) (ls' := [some (.ref 283), some (.int 13), some (.int (nI j)), some (.int 2), some (.int 3)]) (st' := []) (h1 := (am_hh X (am_u (am_u (am_u (am_u (am_u (am_u (am_u (am_u (am_u S 283 2 0) 284 0 23) 283 2 1) 284 1 20) 283 2 2) 284 2 14) 283 2 3) 284 3 13) 283 2 4) L)) rfl rfl rfl rfl ?_
    refine ax_s (pc' := 138) (st' := [.ref 283]) rfl rfl rfl rfl ?_
    refine ax_s (pc' := 140) (st' := [.int 10, .ref 283]) rfl rfl rfl rfl ?_
    refine ax_s (pc' := 141) (st' := [.int (nI j), .int 10, .ref 283]) rfl rfl rfl rfl ?_
    refine ax_s (pc' := 143) (st' := [.int 3, .int (nI j), .int 10, .ref 283]) rfl rfl rfl rfl ?_
    refine ax_call (vs := [.ref 283, .int 10, .int (nI j), .int 3]) (rr := []) rfl rfl rfl ?_
    refine ax_in (ls := [some (.ref 283), some (.int 10), some (.int (nI j)), some (.int 3), none]) rfl ?_
    refine ax_s (pc' := 1) (st' := [.int 3]) rfl rfl rfl rfl ?_
    refine ax_s (pc' := 3) (st' := [.int 16, .int 3]) rfl rfl rfl rfl ?_
    refine ax_cmp_le rfl (fun c32 => ?_) (fun c32 => False.elim (by revert c32; decide))
    refine ax_s (pc' := 10) (st' := [.ref 283]) rfl rfl rfl rfl ?_
    refine ax_s (pc' := 11) (st' := [.int 10, .ref 283]) rfl rfl rfl rfl ?_
    refine ax_call (vs := [.ref 283, .int 10]) (rr := []) rfl rfl rfl ?_
    refine ax_in (ls := [some (.ref 283), some (.int 10)]) rfl ?_
    refine ax_s (pc' := 1) (st' := [.ref 283]) rfl rfl rfl rfl ?_
    refine ax_get rfl (hh_283 _ _ _) rfl rfl rfl ?_
    show am_ex (d + 22) 140 4 [some (.ref 283), some (.int 10)] [.int 4] (am_hh X (am_u (am_u (am_u (am_u (am_u (am_u (am_u (am_u (am_u S 283 2 0) 284 0 23) 283 2 1) 284 1 20) 283 2 2) 284 2 14) 283 2 3) 284 3 13) 283 2 4) L) _
    refine ax_if_lt rfl (fun c33 => False.elim (by revert c33; decide)) (fun c33 => ?_)
    refine ax_s (pc' := 8) (st' := [.ref 283]) rfl rfl rfl rfl ?_
    refine ax_get rfl (hh_283 _ _ _) rfl rfl rfl ?_
    show am_ex (d + 22) 140 11 [some (.ref 283), some (.int 10)] [.int 4] (am_hh X (am_u (am_u (am_u (am_u (am_u (am_u (am_u (am_u (am_u S 283 2 0) 284 0 23) 283 2 1) 284 1 20) 283 2 2) 284 2 14) 283 2 3) 284 3 13) 283 2 4) L) _
    refine ax_s (pc' := 13) (st' := [.int 16, .int 4]) rfl rfl rfl rfl ?_
    refine ax_cmp_ge rfl (fun c34 => False.elim (by revert c34; decide)) (fun c34 => ?_)
    refine ax_s (pc' := 17) (st' := [.ref 283]) rfl rfl rfl rfl ?_
    refine ax_get rfl (hh_283 _ _ _) rfl rfl rfl ?_
    show am_ex (d + 22) 140 20 [some (.ref 283), some (.int 10)] [.ref 284] (am_hh X (am_u (am_u (am_u (am_u (am_u (am_u (am_u (am_u (am_u S 283 2 0) 284 0 23) 283 2 1) 284 1 20) 283 2 2) 284 2 14) 283 2 3) 284 3 13) 283 2 4) L) _
    refine ax_s (pc' := 21) (st' := [.ref 283, .ref 284]) rfl rfl rfl rfl ?_
    refine ax_get rfl (hh_283 _ _ _) rfl rfl rfl ?_
    show am_ex (d + 22) 140 24 [some (.ref 283), some (.int 10)] [.int 4, .ref 284] (am_hh X (am_u (am_u (am_u (am_u (am_u (am_u (am_u (am_u (am_u S 283 2 0) 284 0 23) 283 2 1) 284 1 20) 283 2 2) 284 2 14) 283 2 3) 284 3 13) 283 2 4) L) _
    refine ax_s (pc' := 25) (st' := [.int 10, .int 4, .ref 284]) rfl rfl rfl rfl ?_
    refine ax_ast (j := 4) rfl (hh_284 _ _ _) rfl rfl (by decide) (by decide) (am_hh_set _ _ _ 284 4 _ rfl) ?_
    refine ax_s (pc' := 27) (st' := [.ref 283]) rfl rfl rfl rfl ?_
    refine ax_s (pc' := 28) (st' := [.ref 283, .ref 283]) rfl rfl rfl rfl ?_
    refine ax_get rfl (hh_283 _ _ _) rfl rfl rfl ?_
    show am_ex (d + 22) 140 31 [some (.ref 283), some (.int 10)] [.int 4, .ref 283] (am_hh X (am_u (am_u (am_u (am_u (am_u (am_u (am_u (am_u (am_u (am_u S 283 2 0) 284 0 23) 283 2 1) 284 1 20) 283 2 2) 284 2 14) 283 2 3) 284 3 13) 283 2 4) 284 4 10) L) _
    refine ax_s (pc' := 32) (st' := [.int 1, .int 4, .ref 283]) rfl rfl rfl rfl ?_
    refine ax_s (pc' := 33) (st' := [.int 5, .ref 283]) rfl rfl rfl rfl ?_
    refine ax_put rfl (hh_283 _ _ _) rfl rfl (show 2 + 1 ≤ _ from Nat.le_of_ble_eq_true rfl) rfl (am_hh_set _ _ _ 283 2 _ rfl) ?_
    refine ax_r rfl rfl rfl ?_
    show am_ex (d + 23) 139 14 [some (.ref 283), some (.int 10), some (.int (nI j)), some (.int 3), none] [] (am_hh X (am_u (am_u (am_u (am_u (am_u (am_u (am_u (am_u (am_u (am_u (am_u S 283 2 0) 284 0 23) 283 2 1) 284 1 20) 283 2 2) 284 2 14) 283 2 3) 284 3 13) 283 2 4) 284 4 10) 283 2 5) L) _
    refine ax_s (pc' := 15) (st' := [.int 3]) rfl rfl rfl rfl ?_
    refine ax_s (pc' := 16) (st' := [.int 1, .int 3]) rfl rfl rfl rfl ?_
    refine ax_s (pc' := 17) (st' := [.int 4]) rfl rfl rfl rfl ?_
    refine ax_s (pc' := 19) (ls' := [some (.ref 283), some (.int 10), some (.int (nI j)), some (.int 3), some (.int 4)]) (st' := []) rfl rfl rfl rfl ?_
    refine ax_s (pc' := 20) (st' := [.int 10]) rfl rfl rfl rfl ?_
    refine ax_s (pc' := 96) (ls' := [some (.ref 283), some (.int 10), some (.int (nI j)), some (.int 3), some (.int 4)]) (st' := []) (h1 := (am_hh X (am_u (am_u (am_u (am_u (am_u (am_u (am_u (am_u (am_u (am_u (am_u S 283 2 0) 284 0 23) 283 2 1) 284 1 20) 283 2 2) 284 2 14) 283 2 3) 284 3 13) 283 2 4) 284 4 10) 283 2 5) L)) rfl rfl rfl rfl ?_
    refine ax_s (pc' := 97) (st' := [.ref 283]) rfl rfl rfl rfl ?_
    refine ax_get rfl (hh_283 _ _ _) rfl rfl rfl ?_
    show am_ex (d + 23) 139 100 [some (.ref 283), some (.int 10), some (.int (nI j)), some (.int 3), some (.int 4)] [.ref 20] (am_hh X (am_u (am_u (am_u (am_u (am_u (am_u (am_u (am_u (am_u (am_u (am_u S 283 2 0) 284 0 23) 283 2 1) 284 1 20) 283 2 2) 284 2 14) 283 2 3) 284 3 13) 283 2 4) 284 4 10) 283 2 5) L) _
    refine ax_get rfl (hh_20 _ _ _) rfl rfl rfl ?_
    show am_ex (d + 23) 139 103 [some (.ref 283), some (.int 10), some (.int (nI j)), some (.int 3), some (.int 4)] [.ref 23] (am_hh X (am_u (am_u (am_u (am_u (am_u (am_u (am_u (am_u (am_u (am_u (am_u S 283 2 0) 284 0 23) 283 2 1) 284 1 20) 283 2 2) 284 2 14) 283 2 3) 284 3 13) 283 2 4) 284 4 10) 283 2 5) L) _
    refine ax_s (pc' := 104) (st' := [.int (nI j), .ref 23]) rfl rfl rfl rfl ?_
    refine ax_ald (j := j) (v := (S 23 j)) rfl (hh_23 _ _ _) rfl rfl (x1 c1) (by decide) rfl ?_
    refine ax_r rfl rfl rfl ?_
    show am_ex (d + 24) 139 146 [some (.ref 283), some (.int 13), some (.int (nI j)), some (.int 2), some (.int 3)] [.int (S 23 j)] (am_hh X (am_u (am_u (am_u (am_u (am_u (am_u (am_u (am_u (am_u (am_u (am_u S 283 2 0) 284 0 23) 283 2 1) 284 1 20) 283 2 2) 284 2 14) 283 2 3) 284 3 13) 283 2 4) 284 4 10) 283 2 5) L) _
    refine ax_s (pc' := 148) (st' := [.int 100, .int (S 23 j)]) rfl rfl rfl rfl ?_
    refine ax_s (pc' := 149) (st' := [.int ((S 23 j) - 100)]) rfl rfl rfl rfl ?_
    refine ax_r rfl rfl rfl ?_
    show am_ex (d + 25) 139 160 [some (.ref 283), some (.int 14), some (.int (nI j)), some (.int 1), some (.int 2)] [.int ((S 23 j) - 100), .int 2] (am_hh X (am_u (am_u (am_u (am_u (am_u (am_u (am_u (am_u (am_u (am_u (am_u S 283 2 0) 284 0 23) 283 2 1) 284 1 20) 283 2 2) 284 2 14) 283 2 3) 284 3 13) 283 2 4) 284 4 10) 283 2 5) L) _
    refine ax_s (pc' := 161) (st' := [.int (2 * ((S 23 j) - 100))]) rfl rfl rfl rfl ?_
    refine ax_r rfl rfl rfl ?_
    show am_ex (d + 26) 137 31 [some (.ref 283), some (.int (nI j)), some (.int 0), some (.int 1)] [.int (2 * ((S 23 j) - 100))] (am_hh X (am_u (am_u (am_u (am_u (am_u (am_u (am_u (am_u (am_u (am_u (am_u S 283 2 0) 284 0 23) 283 2 1) 284 1 20) 283 2 2) 284 2 14) 283 2 3) 284 3 13) 283 2 4) 284 4 10) 283 2 5) L) _
    refine ax_r rfl rfl rfl ?_
    show am_ex (d + 27) 139 215 [some (.ref 283), some (.int 23), some (.int (nI j)), some (.int 0), some (.int 1)] [.int (2 * ((S 23 j) - 100)), .int (nI j)] (am_hh X (am_u (am_u (am_u (am_u (am_u (am_u (am_u (am_u (am_u (am_u (am_u S 283 2 0) 284 0 23) 283 2 1) 284 1 20) 283 2 2) 284 2 14) 283 2 3) 284 3 13) 283 2 4) 284 4 10) 283 2 5) L) _
    refine ax_s (pc' := 216) (st' := [.int ((nI j) - (2 * ((S 23 j) - 100)))]) rfl rfl rfl rfl ?_
    refine ax_r rfl rfl rfl ?_
    show am_ex (d + 28) 137 31 [some (.ref 283), some (.int (nI j)), some (.int 1), some (.int 0)] [.int ((nI j) - (2 * ((S 23 j) - 100)))] (am_hh X (am_u (am_u (am_u (am_u (am_u (am_u (am_u (am_u (am_u (am_u (am_u S 283 2 0) 284 0 23) 283 2 1) 284 1 20) 283 2 2) 284 2 14) 283 2 3) 284 3 13) 283 2 4) 284 4 10) 283 2 5) L) _
    refine ax_r rfl rfl rfl ?_
    show am_ex (d + 29) 238 12 [some (.ref 283), some (.int (nI j)), some (.int 1)] [.int ((nI j) - (2 * ((S 23 j) - 100)))] (am_hh X (am_u (am_u (am_u (am_u (am_u (am_u (am_u (am_u (am_u (am_u (am_u S 283 2 0) 284 0 23) 283 2 1) 284 1 20) 283 2 2) 284 2 14) 283 2 3) 284 3 13) 283 2 4) 284 4 10) 283 2 5) L) _
    refine ax_r rfl rfl rfl ?_
    show am_ex (d + 30) 136 32 [some (.ref 5), some (.int (nI j)), some (.int 1)] [.int ((nI j) - (2 * ((S 23 j) - 100)))] (am_hh X (am_u (am_u (am_u (am_u (am_u (am_u (am_u (am_u (am_u (am_u (am_u S 283 2 0) 284 0 23) 283 2 1) 284 1 20) 283 2 2) 284 2 14) 283 2 3) 284 3 13) 283 2 4) 284 4 10) 283 2 5) L) _
    refine ax_r rfl rfl rfl ?_
    exact k2 c1
theorem wm_ask_5_1 {d : Nat} {X : Nat × (Nat → Int32)} {S : Nat → Nat → Int32} {L : Nat → Int64} {j : Nat} {Q : Option Value → am_H → Prop} (hk : S 290 j = 5) (hj : j < 6)  (x1 : ¬ (nI j) < 0 ∧ ¬ (S 285 7) - 1 < (nI j) → j < 6) (k1 : ¬ (¬ (nI j) < 0 ∧ ¬ (S 285 7) - 1 < (nI j)) → Q (some (.int (-1000001))) (am_hh X S L)) (k2 : ¬ (nI j) < 0 ∧ ¬ (S 285 7) - 1 < (nI j) → Q (some (.int ((nI j) - (2 * ((S 291 j) - 100))))) (am_hh X (am_u (am_u (am_u (am_u (am_u (am_u (am_u (am_u (am_u (am_u (am_u S 285 20 0) 299 0 23) 285 20 1) 299 1 20) 285 20 2) 299 2 14) 285 20 3) 299 3 13) 285 20 4) 299 4 10) 285 20 5) L)) : am_mt (d + 10) 224 [.ref 285, .int (nI j), .int 1] (am_hh X S L) Q := by
  refine ax_in (ls := [some (.ref 285), some (.int (nI j)), some (.int 1)]) rfl ?_
  refine ax_s (pc' := 1) (st' := [.ref 285]) rfl rfl rfl rfl ?_
  refine ax_s (pc' := 2) (st' := [.int (nI j), .ref 285]) rfl rfl rfl rfl ?_
  refine ax_call (vs := [.ref 285, .int (nI j)]) (rr := []) rfl rfl rfl ?_
  refine mt_isParty  ?_
  show am_ex (d + 10) 224 5 [some (.ref 285), some (.int (nI j)), some (.int 1)] [.int (bI (decide (¬ (nI j) < 0 ∧ ¬ (S 285 7) - 1 < (nI j))))] (am_hh X S L) _
  refine ax_pF rfl (fun c1 => ?_) (fun c1 => ?_)
  · refine ax_s (pc' := 19) (st' := [.int (-1000001)]) rfl rfl rfl rfl ?_
    refine ax_r rfl rfl rfl ?_
    exact k1 c1
  · refine ax_s (pc' := 9) (st' := [.int 1]) rfl rfl rfl rfl ?_
    refine ax_s (pc' := 10) (st' := [.int 0, .int 1]) rfl rfl rfl rfl ?_
    refine ax_s (pc' := 11) (st' := [.int 1, .int 0, .int 1]) rfl rfl rfl rfl ?_
    refine ax_call (vs := [.int 1, .int 0, .int 1]) (rr := []) rfl rfl rfl ?_
    refine mt_in ?_
    show am_ex (d + 10) 224 14 [some (.ref 285), some (.int (nI j)), some (.int 1)] [.int 1] (am_hh X S L) _
    refine ax_if_ne rfl (fun c2 => ?_) (fun c2 => False.elim (by revert c2; decide))
    refine ax_s (pc' := 21) (st' := [.ref 285]) rfl rfl rfl rfl ?_
    refine ax_s (pc' := 22) (st' := [.int 0, .ref 285]) rfl rfl rfl rfl ?_
    refine ax_put rfl (hh_285 _ _ _) rfl rfl (show 20 + 1 ≤ _ from Nat.le_of_ble_eq_true rfl) rfl (am_hh_set _ _ _ 285 20 _ rfl) ?_
    refine ax_s (pc' := 26) (st' := [.ref 285]) rfl rfl rfl rfl ?_
    refine ax_get rfl (hh_285 _ _ _) rfl rfl rfl ?_
    show am_ex (d + 10) 224 29 [some (.ref 285), some (.int (nI j)), some (.int 1)] [.ref 290] (am_hh X (am_u S 285 20 0) L) _
    refine ax_s (pc' := 30) (st' := [.int (nI j), .ref 290]) rfl rfl rfl rfl ?_
    refine ax_ald (j := j) (v := 5) rfl (hh_290 _ _ _) rfl rfl (x1 c1) (by decide) hk ?_
    refine ax_s (pc' := 32) (st' := [.int 4, .int 5]) rfl rfl rfl rfl ?_
    refine ax_cmp_ge rfl (fun c3 => ?_) (fun c3 => False.elim (by revert c3; decide))
    refine ax_s (pc' := 54) (st' := [.int 1]) rfl rfl rfl rfl ?_
    refine ax_if_ne rfl (fun c4 => ?_) (fun c4 => False.elim (by revert c4; decide))
    refine ax_s (pc' := 66) (st' := [.ref 285]) rfl rfl rfl rfl ?_
    refine ax_s (pc' := 67) (st' := [.int (nI j), .ref 285]) rfl rfl rfl rfl ?_
    refine ax_call (vs := [.ref 285, .int (nI j)]) (rr := []) rfl rfl rfl ?_
    refine ax_in (ls := [some (.ref 285), some (.int (nI j)), none]) rfl ?_
    refine ax_s (pc' := 1) (st' := [.ref 285]) rfl rfl rfl rfl ?_
    refine ax_s (pc' := 3) (st' := [.int 23, .ref 285]) rfl rfl rfl rfl ?_
    refine ax_call (vs := [.ref 285, .int 23]) (rr := []) rfl rfl rfl ?_
    refine ax_in (ls := [some (.ref 285), some (.int 23)]) rfl ?_
    refine ax_s (pc' := 1) (st' := [.ref 285]) rfl rfl rfl rfl ?_
    refine ax_get rfl (hh_285 _ _ _) rfl rfl rfl ?_
    show am_ex (d + 8) 226 4 [some (.ref 285), some (.int 23)] [.int 0] (am_hh X (am_u S 285 20 0) L) _
    refine ax_s (pc' := 6) (st' := [.int 16, .int 0]) rfl rfl rfl rfl ?_
    refine ax_cmp_ge rfl (fun c5 => False.elim (by revert c5; decide)) (fun c5 => ?_)
    refine ax_s (pc' := 10) (st' := [.ref 285]) rfl rfl rfl rfl ?_
    refine ax_get rfl (hh_285 _ _ _) rfl rfl rfl ?_
    show am_ex (d + 8) 226 13 [some (.ref 285), some (.int 23)] [.ref 299] (am_hh X (am_u S 285 20 0) L) _
    refine ax_s (pc' := 14) (st' := [.ref 285, .ref 299]) rfl rfl rfl rfl ?_
    refine ax_get rfl (hh_285 _ _ _) rfl rfl rfl ?_
    show am_ex (d + 8) 226 17 [some (.ref 285), some (.int 23)] [.int 0, .ref 299] (am_hh X (am_u S 285 20 0) L) _
    refine ax_s (pc' := 18) (st' := [.int 23, .int 0, .ref 299]) rfl rfl rfl rfl ?_
    refine ax_ast (j := 0) rfl (hh_299 _ _ _) rfl rfl (by decide) (by decide) (am_hh_set _ _ _ 299 0 _ rfl) ?_
    refine ax_s (pc' := 20) (st' := [.ref 285]) rfl rfl rfl rfl ?_
    refine ax_s (pc' := 21) (st' := [.ref 285, .ref 285]) rfl rfl rfl rfl ?_
    refine ax_get rfl (hh_285 _ _ _) rfl rfl rfl ?_
    show am_ex (d + 8) 226 24 [some (.ref 285), some (.int 23)] [.int 0, .ref 285] (am_hh X (am_u (am_u S 285 20 0) 299 0 23) L) _
    refine ax_s (pc' := 25) (st' := [.int 1, .int 0, .ref 285]) rfl rfl rfl rfl ?_
    refine ax_s (pc' := 26) (st' := [.int 1, .ref 285]) rfl rfl rfl rfl ?_
    refine ax_put rfl (hh_285 _ _ _) rfl rfl (show 20 + 1 ≤ _ from Nat.le_of_ble_eq_true rfl) rfl (am_hh_set _ _ _ 285 20 _ rfl) ?_
    refine ax_r rfl rfl rfl ?_
    show am_ex (d + 9) 232 6 [some (.ref 285), some (.int (nI j)), none] [] (am_hh X (am_u (am_u (am_u S 285 20 0) 299 0 23) 285 20 1) L) _
    refine ax_s (pc' := 7) (st' := [.ref 285]) rfl rfl rfl rfl ?_
    refine ax_s (pc' := 8) (st' := [.int (nI j), .ref 285]) rfl rfl rfl rfl ?_
    refine ax_call (vs := [.ref 285, .int (nI j)]) (rr := []) rfl rfl rfl ?_
    refine ax_in (ls := [some (.ref 285), some (.int (nI j))]) rfl ?_
    refine ax_s (pc' := 1) (st' := [.ref 285]) rfl rfl rfl rfl ?_
    refine ax_s (pc' := 3) (st' := [.int 20, .ref 285]) rfl rfl rfl rfl ?_
    refine ax_call (vs := [.ref 285, .int 20]) (rr := []) rfl rfl rfl ?_
    refine ax_in (ls := [some (.ref 285), some (.int 20)]) rfl ?_
    refine ax_s (pc' := 1) (st' := [.ref 285]) rfl rfl rfl rfl ?_
    refine ax_get rfl (hh_285 _ _ _) rfl rfl rfl ?_
    show am_ex (d + 7) 226 4 [some (.ref 285), some (.int 20)] [.int 1] (am_hh X (am_u (am_u (am_u S 285 20 0) 299 0 23) 285 20 1) L) _
    refine ax_s (pc' := 6) (st' := [.int 16, .int 1]) rfl rfl rfl rfl ?_
    refine ax_cmp_ge rfl (fun c6 => False.elim (by revert c6; decide)) (fun c6 => ?_)
    refine ax_s (pc' := 10) (st' := [.ref 285]) rfl rfl rfl rfl ?_
    refine ax_get rfl (hh_285 _ _ _) rfl rfl rfl ?_
    show am_ex (d + 7) 226 13 [some (.ref 285), some (.int 20)] [.ref 299] (am_hh X (am_u (am_u (am_u S 285 20 0) 299 0 23) 285 20 1) L) _
    refine ax_s (pc' := 14) (st' := [.ref 285, .ref 299]) rfl rfl rfl rfl ?_
    refine ax_get rfl (hh_285 _ _ _) rfl rfl rfl ?_
    show am_ex (d + 7) 226 17 [some (.ref 285), some (.int 20)] [.int 1, .ref 299] (am_hh X (am_u (am_u (am_u S 285 20 0) 299 0 23) 285 20 1) L) _
    refine ax_s (pc' := 18) (st' := [.int 20, .int 1, .ref 299]) rfl rfl rfl rfl ?_
    refine ax_ast (j := 1) rfl (hh_299 _ _ _) rfl rfl (by decide) (by decide) (am_hh_set _ _ _ 299 1 _ rfl) ?_
    refine ax_s (pc' := 20) (st' := [.ref 285]) rfl rfl rfl rfl ?_
    refine ax_s (pc' := 21) (st' := [.ref 285, .ref 285]) rfl rfl rfl rfl ?_
    refine ax_get rfl (hh_285 _ _ _) rfl rfl rfl ?_
    show am_ex (d + 7) 226 24 [some (.ref 285), some (.int 20)] [.int 1, .ref 285] (am_hh X (am_u (am_u (am_u (am_u S 285 20 0) 299 0 23) 285 20 1) 299 1 20) L) _
    refine ax_s (pc' := 25) (st' := [.int 1, .int 1, .ref 285]) rfl rfl rfl rfl ?_
    refine ax_s (pc' := 26) (st' := [.int 2, .ref 285]) rfl rfl rfl rfl ?_
    refine ax_put rfl (hh_285 _ _ _) rfl rfl (show 20 + 1 ≤ _ from Nat.le_of_ble_eq_true rfl) rfl (am_hh_set _ _ _ 285 20 _ rfl) ?_
    refine ax_r rfl rfl rfl ?_
    show am_ex (d + 8) 230 6 [some (.ref 285), some (.int (nI j))] [] (am_hh X (am_u (am_u (am_u (am_u (am_u S 285 20 0) 299 0 23) 285 20 1) 299 1 20) 285 20 2) L) _
    refine ax_s (pc' := 7) (st' := [.int (nI j)]) rfl rfl rfl rfl ?_
    refine ax_r rfl rfl rfl ?_
    show am_ex (d + 9) 232 11 [some (.ref 285), some (.int (nI j)), none] [.int (nI j)] (am_hh X (am_u (am_u (am_u (am_u (am_u S 285 20 0) 299 0 23) 285 20 1) 299 1 20) 285 20 2) L) _
    refine ax_s (pc' := 12) (ls' := [some (.ref 285), some (.int (nI j)), some (.int (nI j))]) (st' := []) rfl rfl rfl rfl ?_
    refine ax_s (pc' := 13) (st' := [.int (nI j)]) rfl rfl rfl rfl ?_
    refine ax_s (pc' := 14) (st' := [.ref 285, .int (nI j)]) rfl rfl rfl rfl ?_
    refine ax_s (pc' := 15) (st' := [.int (nI j), .ref 285, .int (nI j)]) rfl rfl rfl rfl ?_
    refine ax_call (vs := [.ref 285, .int (nI j)]) (rr := [.int (nI j)]) rfl rfl rfl ?_
    refine ax_in (ls := [some (.ref 285), some (.int (nI j)), none]) rfl ?_
    refine ax_s (pc' := 1) (st' := [.ref 285]) rfl rfl rfl rfl ?_
    refine ax_get rfl (hh_285 _ _ _) rfl rfl rfl ?_
    show am_ex (d + 8) 231 4 [some (.ref 285), some (.int (nI j)), none] [.ref 290] (am_hh X (am_u (am_u (am_u (am_u (am_u S 285 20 0) 299 0 23) 285 20 1) 299 1 20) 285 20 2) L) _
    refine ax_s (pc' := 5) (st' := [.int (nI j), .ref 290]) rfl rfl rfl rfl ?_
    refine ax_ald (j := j) (v := 5) rfl (hh_290 _ _ _) rfl rfl (x1 c1) (by decide) hk ?_
    refine ax_s (pc' := 7) (st' := [.int 5, .int 5]) rfl rfl rfl rfl ?_
    refine ax_cmp_ne rfl (fun c7 => False.elim (by revert c7; decide)) (fun c7 => ?_)
    refine ax_s (pc' := 11) (st' := [.ref 285]) rfl rfl rfl rfl ?_
    refine ax_s (pc' := 13) (st' := [.int 14, .ref 285]) rfl rfl rfl rfl ?_
    refine ax_call (vs := [.ref 285, .int 14]) (rr := []) rfl rfl rfl ?_
    refine ax_in (ls := [some (.ref 285), some (.int 14)]) rfl ?_
    refine ax_s (pc' := 1) (st' := [.ref 285]) rfl rfl rfl rfl ?_
    refine ax_get rfl (hh_285 _ _ _) rfl rfl rfl ?_
    show am_ex (d + 7) 226 4 [some (.ref 285), some (.int 14)] [.int 2] (am_hh X (am_u (am_u (am_u (am_u (am_u S 285 20 0) 299 0 23) 285 20 1) 299 1 20) 285 20 2) L) _
    refine ax_s (pc' := 6) (st' := [.int 16, .int 2]) rfl rfl rfl rfl ?_
    refine ax_cmp_ge rfl (fun c8 => False.elim (by revert c8; decide)) (fun c8 => ?_)
    refine ax_s (pc' := 10) (st' := [.ref 285]) rfl rfl rfl rfl ?_
    refine ax_get rfl (hh_285 _ _ _) rfl rfl rfl ?_
    show am_ex (d + 7) 226 13 [some (.ref 285), some (.int 14)] [.ref 299] (am_hh X (am_u (am_u (am_u (am_u (am_u S 285 20 0) 299 0 23) 285 20 1) 299 1 20) 285 20 2) L) _
    refine ax_s (pc' := 14) (st' := [.ref 285, .ref 299]) rfl rfl rfl rfl ?_
    refine ax_get rfl (hh_285 _ _ _) rfl rfl rfl ?_
    show am_ex (d + 7) 226 17 [some (.ref 285), some (.int 14)] [.int 2, .ref 299] (am_hh X (am_u (am_u (am_u (am_u (am_u S 285 20 0) 299 0 23) 285 20 1) 299 1 20) 285 20 2) L) _
    refine ax_s (pc' := 18) (st' := [.int 14, .int 2, .ref 299]) rfl rfl rfl rfl ?_
    refine ax_ast (j := 2) rfl (hh_299 _ _ _) rfl rfl (by decide) (by decide) (am_hh_set _ _ _ 299 2 _ rfl) ?_
    refine ax_s (pc' := 20) (st' := [.ref 285]) rfl rfl rfl rfl ?_
    refine ax_s (pc' := 21) (st' := [.ref 285, .ref 285]) rfl rfl rfl rfl ?_
    refine ax_get rfl (hh_285 _ _ _) rfl rfl rfl ?_
    show am_ex (d + 7) 226 24 [some (.ref 285), some (.int 14)] [.int 2, .ref 285] (am_hh X (am_u (am_u (am_u (am_u (am_u (am_u S 285 20 0) 299 0 23) 285 20 1) 299 1 20) 285 20 2) 299 2 14) L) _
    refine ax_s (pc' := 25) (st' := [.int 1, .int 2, .ref 285]) rfl rfl rfl rfl ?_
    refine ax_s (pc' := 26) (st' := [.int 3, .ref 285]) rfl rfl rfl rfl ?_
    refine ax_put rfl (hh_285 _ _ _) rfl rfl (show 20 + 1 ≤ _ from Nat.le_of_ble_eq_true rfl) rfl (am_hh_set _ _ _ 285 20 _ rfl) ?_
    refine ax_r rfl rfl rfl ?_
    show am_ex (d + 8) 231 16 [some (.ref 285), some (.int (nI j)), none] [] (am_hh X (am_u (am_u (am_u (am_u (am_u (am_u (am_u S 285 20 0) 299 0 23) 285 20 1) 299 1 20) 285 20 2) 299 2 14) 285 20 3) L) _
    refine ax_s (pc' := 17) (st' := [.ref 285]) rfl rfl rfl rfl ?_
    refine ax_s (pc' := 19) (st' := [.int 13, .ref 285]) rfl rfl rfl rfl ?_
    refine ax_call (vs := [.ref 285, .int 13]) (rr := []) rfl rfl rfl ?_
    refine ax_in (ls := [some (.ref 285), some (.int 13)]) rfl ?_
    refine ax_s (pc' := 1) (st' := [.ref 285]) rfl rfl rfl rfl ?_
    refine ax_get rfl (hh_285 _ _ _) rfl rfl rfl ?_
    show am_ex (d + 7) 226 4 [some (.ref 285), some (.int 13)] [.int 3] (am_hh X (am_u (am_u (am_u (am_u (am_u (am_u (am_u S 285 20 0) 299 0 23) 285 20 1) 299 1 20) 285 20 2) 299 2 14) 285 20 3) L) _
    refine ax_s (pc' := 6) (st' := [.int 16, .int 3]) rfl rfl rfl rfl ?_
    refine ax_cmp_ge rfl (fun c9 => False.elim (by revert c9; decide)) (fun c9 => ?_)
    refine ax_s (pc' := 10) (st' := [.ref 285]) rfl rfl rfl rfl ?_
    refine ax_get rfl (hh_285 _ _ _) rfl rfl rfl ?_
    show am_ex (d + 7) 226 13 [some (.ref 285), some (.int 13)] [.ref 299] (am_hh X (am_u (am_u (am_u (am_u (am_u (am_u (am_u S 285 20 0) 299 0 23) 285 20 1) 299 1 20) 285 20 2) 299 2 14) 285 20 3) L) _
    refine ax_s (pc' := 14) (st' := [.ref 285, .ref 299]) rfl rfl rfl rfl ?_
    refine ax_get rfl (hh_285 _ _ _) rfl rfl rfl ?_
    show am_ex (d + 7) 226 17 [some (.ref 285), some (.int 13)] [.int 3, .ref 299] (am_hh X (am_u (am_u (am_u (am_u (am_u (am_u (am_u S 285 20 0) 299 0 23) 285 20 1) 299 1 20) 285 20 2) 299 2 14) 285 20 3) L) _
    refine ax_s (pc' := 18) (st' := [.int 13, .int 3, .ref 299]) rfl rfl rfl rfl ?_
    refine ax_ast (j := 3) rfl (hh_299 _ _ _) rfl rfl (by decide) (by decide) (am_hh_set _ _ _ 299 3 _ rfl) ?_
    refine ax_s (pc' := 20) (st' := [.ref 285]) rfl rfl rfl rfl ?_
    refine ax_s (pc' := 21) (st' := [.ref 285, .ref 285]) rfl rfl rfl rfl ?_
    refine ax_get rfl (hh_285 _ _ _) rfl rfl rfl ?_
    show am_ex (d + 7) 226 24 [some (.ref 285), some (.int 13)] [.int 3, .ref 285] (am_hh X (am_u (am_u (am_u (am_u (am_u (am_u (am_u (am_u S 285 20 0) 299 0 23) 285 20 1) 299 1 20) 285 20 2) 299 2 14) 285 20 3) 299 3 13) L) _
    refine ax_s (pc' := 25) (st' := [.int 1, .int 3, .ref 285]) rfl rfl rfl rfl ?_
    refine ax_s (pc' := 26) (st' := [.int 4, .ref 285]) rfl rfl rfl rfl ?_
    refine ax_put rfl (hh_285 _ _ _) rfl rfl (show 20 + 1 ≤ _ from Nat.le_of_ble_eq_true rfl) rfl (am_hh_set _ _ _ 285 20 _ rfl) ?_
    refine ax_r rfl rfl rfl ?_
    show am_ex (d + 8) 231 22 [some (.ref 285), some (.int (nI j)), none] [] (am_hh X (am_u (am_u (am_u (am_u (am_u (am_u (am_u (am_u (am_u S 285 20 0) 299 0 23) 285 20 1) 299 1 20) 285 20 2) 299 2 14) 285 20 3) 299 3 13) 285 20 4) L) _
    refine ax_s (pc' := 23) (st' := [.ref 285]) rfl rfl rfl rfl ?_
    refine ax_s (pc' := 24) (st' := [.int (nI j), .ref 285]) rfl rfl rfl rfl ?_
    refine ax_call (vs := [.ref 285, .int (nI j)]) (rr := []) rfl rfl rfl ?_
    refine ax_in (ls := [some (.ref 285), some (.int (nI j))]) rfl ?_
    refine ax_s (pc' := 1) (st' := [.ref 285]) rfl rfl rfl rfl ?_
    refine ax_s (pc' := 3) (st' := [.int 10, .ref 285]) rfl rfl rfl rfl ?_
    refine ax_call (vs := [.ref 285, .int 10]) (rr := []) rfl rfl rfl ?_
    refine ax_in (ls := [some (.ref 285), some (.int 10)]) rfl ?_
    refine ax_s (pc' := 1) (st' := [.ref 285]) rfl rfl rfl rfl ?_
    refine ax_get rfl (hh_285 _ _ _) rfl rfl rfl ?_
    show am_ex (d + 6) 226 4 [some (.ref 285), some (.int 10)] [.int 4] (am_hh X (am_u (am_u (am_u (am_u (am_u (am_u (am_u (am_u (am_u S 285 20 0) 299 0 23) 285 20 1) 299 1 20) 285 20 2) 299 2 14) 285 20 3) 299 3 13) 285 20 4) L) _
    refine ax_s (pc' := 6) (st' := [.int 16, .int 4]) rfl rfl rfl rfl ?_
    refine ax_cmp_ge rfl (fun c10 => False.elim (by revert c10; decide)) (fun c10 => ?_)
    refine ax_s (pc' := 10) (st' := [.ref 285]) rfl rfl rfl rfl ?_
    refine ax_get rfl (hh_285 _ _ _) rfl rfl rfl ?_
    show am_ex (d + 6) 226 13 [some (.ref 285), some (.int 10)] [.ref 299] (am_hh X (am_u (am_u (am_u (am_u (am_u (am_u (am_u (am_u (am_u S 285 20 0) 299 0 23) 285 20 1) 299 1 20) 285 20 2) 299 2 14) 285 20 3) 299 3 13) 285 20 4) L) _
    refine ax_s (pc' := 14) (st' := [.ref 285, .ref 299]) rfl rfl rfl rfl ?_
    refine ax_get rfl (hh_285 _ _ _) rfl rfl rfl ?_
    show am_ex (d + 6) 226 17 [some (.ref 285), some (.int 10)] [.int 4, .ref 299] (am_hh X (am_u (am_u (am_u (am_u (am_u (am_u (am_u (am_u (am_u S 285 20 0) 299 0 23) 285 20 1) 299 1 20) 285 20 2) 299 2 14) 285 20 3) 299 3 13) 285 20 4) L) _
    refine ax_s (pc' := 18) (st' := [.int 10, .int 4, .ref 299]) rfl rfl rfl rfl ?_
    refine ax_ast (j := 4) rfl (hh_299 _ _ _) rfl rfl (by decide) (by decide) (am_hh_set _ _ _ 299 4 _ rfl) ?_
    refine ax_s (pc' := 20) (st' := [.ref 285]) rfl rfl rfl rfl ?_
    refine ax_s (pc' := 21) (st' := [.ref 285, .ref 285]) rfl rfl rfl rfl ?_
    refine ax_get rfl (hh_285 _ _ _) rfl rfl rfl ?_
    show am_ex (d + 6) 226 24 [some (.ref 285), some (.int 10)] [.int 4, .ref 285] (am_hh X (am_u (am_u (am_u (am_u (am_u (am_u (am_u (am_u (am_u (am_u S 285 20 0) 299 0 23) 285 20 1) 299 1 20) 285 20 2) 299 2 14) 285 20 3) 299 3 13) 285 20 4) 299 4 10) L) _
    refine ax_s (pc' := 25) (st' := [.int 1, .int 4, .ref 285]) rfl rfl rfl rfl ?_
    refine ax_s (pc' := 26) (st' := [.int 5, .ref 285]) rfl rfl rfl rfl ?_
    refine ax_put rfl (hh_285 _ _ _) rfl rfl (show 20 + 1 ≤ _ from Nat.le_of_ble_eq_true rfl) rfl (am_hh_set _ _ _ 285 20 _ rfl) ?_
    refine ax_r rfl rfl rfl ?_
    show am_ex (d + 7) 227 6 [some (.ref 285), some (.int (nI j))] [] (am_hh X (am_u (am_u (am_u (am_u (am_u (am_u (am_u (am_u (am_u (am_u (am_u S 285 20 0) 299 0 23) 285 20 1) 299 1 20) 285 20 2) 299 2 14) 285 20 3) 299 3 13) 285 20 4) 299 4 10) 285 20 5) L) _
    refine ax_s (pc' := 7) (st' := [.ref 285]) rfl rfl rfl rfl ?_
    refine ax_get rfl (hh_285 _ _ _) rfl rfl rfl ?_
    show am_ex (d + 7) 227 10 [some (.ref 285), some (.int (nI j))] [.ref 291] (am_hh X (am_u (am_u (am_u (am_u (am_u (am_u (am_u (am_u (am_u (am_u (am_u S 285 20 0) 299 0 23) 285 20 1) 299 1 20) 285 20 2) 299 2 14) 285 20 3) 299 3 13) 285 20 4) 299 4 10) 285 20 5) L) _
    refine ax_s (pc' := 11) (st' := [.int (nI j), .ref 291]) rfl rfl rfl rfl ?_
    refine ax_ald (j := j) (v := (S 291 j)) rfl (hh_291 _ _ _) rfl rfl (x1 c1) (by decide) rfl ?_
    refine ax_r rfl rfl rfl ?_
    show am_ex (d + 8) 231 27 [some (.ref 285), some (.int (nI j)), none] [.int (S 291 j)] (am_hh X (am_u (am_u (am_u (am_u (am_u (am_u (am_u (am_u (am_u (am_u (am_u S 285 20 0) 299 0 23) 285 20 1) 299 1 20) 285 20 2) 299 2 14) 285 20 3) 299 3 13) 285 20 4) 299 4 10) 285 20 5) L) _
    refine ax_s (pc' := 29) (st' := [.int 100, .int (S 291 j)]) rfl rfl rfl rfl ?_
    refine ax_s (pc' := 30) (st' := [.int ((S 291 j) - 100)]) rfl rfl rfl rfl ?_
    refine ax_s (pc' := 31) (ls' := [some (.ref 285), some (.int (nI j)), some (.int ((S 291 j) - 100))]) (st' := []) rfl rfl rfl rfl ?_
    refine ax_s (pc' := 32) (st' := [.ref 285]) rfl rfl rfl rfl ?_
    refine ax_get rfl (hh_285 _ _ _) rfl rfl rfl ?_
    show am_ex (d + 8) 231 35 [some (.ref 285), some (.int (nI j)), some (.int ((S 291 j) - 100))] [.ref 290] (am_hh X (am_u (am_u (am_u (am_u (am_u (am_u (am_u (am_u (am_u (am_u (am_u S 285 20 0) 299 0 23) 285 20 1) 299 1 20) 285 20 2) 299 2 14) 285 20 3) 299 3 13) 285 20 4) 299 4 10) 285 20 5) L) _
    refine ax_s (pc' := 36) (st' := [.int (nI j), .ref 290]) rfl rfl rfl rfl ?_
    refine ax_ald (j := j) (v := 5) rfl (hh_290 _ _ _) rfl rfl (x1 c1) (by decide) hk ?_
    refine ax_s (pc' := 38) (st' := [.int 5, .int 5]) rfl rfl rfl rfl ?_
    refine ax_cmp_ne rfl (fun c11 => False.elim (by revert c11; decide)) (fun c11 => ?_)
    refine ax_s (pc' := 42) (st' := [.int 2]) rfl rfl rfl rfl ?_
    refine ax_s (pc' := 43) (st' := [.int ((S 291 j) - 100), .int 2]) rfl rfl rfl rfl ?_
    refine ax_s (pc' := 44) (st' := [.int (2 * ((S 291 j) - 100))]) rfl rfl rfl rfl ?_
    refine ax_s (pc' := 48) (st' := [.int (2 * ((S 291 j) - 100))]) rfl rfl rfl rfl ?_
    refine ax_r rfl rfl rfl ?_
    show am_ex (d + 9) 232 18 [some (.ref 285), some (.int (nI j)), some (.int (nI j))] [.int (2 * ((S 291 j) - 100)), .int (nI j)] (am_hh X (am_u (am_u (am_u (am_u (am_u (am_u (am_u (am_u (am_u (am_u (am_u S 285 20 0) 299 0 23) 285 20 1) 299 1 20) 285 20 2) 299 2 14) 285 20 3) 299 3 13) 285 20 4) 299 4 10) 285 20 5) L) _
    refine ax_s (pc' := 19) (st' := [.int ((nI j) - (2 * ((S 291 j) - 100)))]) rfl rfl rfl rfl ?_
    refine ax_r rfl rfl rfl ?_
    show am_ex (d + 10) 224 70 [some (.ref 285), some (.int (nI j)), some (.int 1)] [.int ((nI j) - (2 * ((S 291 j) - 100)))] (am_hh X (am_u (am_u (am_u (am_u (am_u (am_u (am_u (am_u (am_u (am_u (am_u S 285 20 0) 299 0 23) 285 20 1) 299 1 20) 285 20 2) 299 2 14) 285 20 3) 299 3 13) 285 20 4) 299 4 10) 285 20 5) L) _
    refine ax_r rfl rfl rfl ?_
    exact k2 c1
def g_k_ask (S : Nat → Nat → Int32) (p q : Int32) : Prop := (¬ p < 0 ∧ ¬ (S 20 4) ≤ p) ∧ (¬ (q < 0 ∨ 1 < q))
def eg_k_ask (S : Nat → Nat → Int32) (p q : Int32) : Int32 := (if ¬ p < 0 ∧ ¬ (S 20 4) ≤ p then (if q < 0 ∨ 1 < q then (-1000001) else 0) else (-1000001))
theorem wg_k_ask {d : Nat} {X : Nat × (Nat → Int32)} {S : Nat → Nat → Int32} {L : Nat → Int64} {p q : Int32} {Q : Option Value → am_H → Prop}   (hb : ¬ g_k_ask S p q) (hQ : Q (some (.int (eg_k_ask S p q))) (am_hh X S L)) : am_mt (d + 30) 136 [.ref 5, .int p, .int q] (am_hh X S L) Q := by
  refine ax_in (ls := [some (.ref 5), some (.int p), some (.int q)]) rfl ?_
  refine ax_s (pc' := 1) (st' := [.ref 5]) rfl rfl rfl rfl ?_
  refine ax_get rfl (hh_5 _ _ _) rfl rfl rfl ?_
  show am_ex (d + 30) 136 4 [some (.ref 5), some (.int p), some (.int q)] [.ref 20] (am_hh X S L) _
  refine ax_s (pc' := 5) (st' := [.int p, .ref 20]) rfl rfl rfl rfl ?_
  refine ax_call (vs := [.ref 20, .int p]) (rr := []) rfl rfl rfl ?_
  refine kw (am_hh_sub isW20 X S L) (am_hh_sub isW20 X S L).symm (fun _ => ct_hasParty (am_isW_k isW20 X S L)) ?_
  show am_ex (d + 30) 136 8 [some (.ref 5), some (.int p), some (.int q)] [.int (bI (decide (¬ p < 0 ∧ ¬ (S 20 4) ≤ p)))] (am_hh X S L) _
  refine ax_pF rfl (fun c1 => ?_) (fun c1 => ?_)
  · refine ax_s (pc' := 22) (st' := [.int (-1000001)]) rfl rfl rfl rfl ?_
    refine ax_r rfl rfl rfl ?_
    unfold eg_k_ask at hQ
    rw [if_neg c1] at hQ
    exact hQ
  · refine ax_s (pc' := 12) (st' := [.int q]) rfl rfl rfl rfl ?_
    refine ax_s (pc' := 13) (st' := [.int 0, .int q]) rfl rfl rfl rfl ?_
    refine ax_s (pc' := 14) (st' := [.int 1, .int 0, .int q]) rfl rfl rfl rfl ?_
    refine ax_call (vs := [.int q, .int 0, .int 1]) (rr := []) rfl rfl rfl ?_
    refine ct_isOutside ?_
    show am_ex (d + 30) 136 17 [some (.ref 5), some (.int p), some (.int q)] [.int (bI (decide (q < 0 ∨ 1 < q)))] (am_hh X S L) _
    refine ax_pF rfl (fun c2 => ?_) (fun c2 => ?_)
    · exact absurd ⟨c1, c2⟩ hb
    · refine ax_s (pc' := 22) (st' := [.int (-1000001)]) rfl rfl rfl rfl ?_
      refine ax_r rfl rfl rfl ?_
      unfold eg_k_ask at hQ
      rw [if_pos c1, if_pos c2] at hQ
      exact hQ
def g_m_ask (S : Nat → Nat → Int32) (p q : Int32) : Prop := (¬ p < 0 ∧ ¬ (S 285 7) - 1 < p) ∧ (¬ q < 0 ∧ ¬ 1 < q)
def eg_m_ask (S : Nat → Nat → Int32) (p q : Int32) : Int32 := (if ¬ p < 0 ∧ ¬ (S 285 7) - 1 < p then (if ¬ q < 0 ∧ ¬ 1 < q then 0 else (-1000001)) else (-1000001))
theorem wg_m_ask {d : Nat} {X : Nat × (Nat → Int32)} {S : Nat → Nat → Int32} {L : Nat → Int64} {p q : Int32} {Q : Option Value → am_H → Prop}   (hb : ¬ g_m_ask S p q) (hQ : Q (some (.int (eg_m_ask S p q))) (am_hh X S L)) : am_mt (d + 10) 224 [.ref 285, .int p, .int q] (am_hh X S L) Q := by
  refine ax_in (ls := [some (.ref 285), some (.int p), some (.int q)]) rfl ?_
  refine ax_s (pc' := 1) (st' := [.ref 285]) rfl rfl rfl rfl ?_
  refine ax_s (pc' := 2) (st' := [.int p, .ref 285]) rfl rfl rfl rfl ?_
  refine ax_call (vs := [.ref 285, .int p]) (rr := []) rfl rfl rfl ?_
  refine mt_isParty  ?_
  show am_ex (d + 10) 224 5 [some (.ref 285), some (.int p), some (.int q)] [.int (bI (decide (¬ p < 0 ∧ ¬ (S 285 7) - 1 < p)))] (am_hh X S L) _
  refine ax_pF rfl (fun c1 => ?_) (fun c1 => ?_)
  · refine ax_s (pc' := 19) (st' := [.int (-1000001)]) rfl rfl rfl rfl ?_
    refine ax_r rfl rfl rfl ?_
    unfold eg_m_ask at hQ
    rw [if_neg c1] at hQ
    exact hQ
  · refine ax_s (pc' := 9) (st' := [.int q]) rfl rfl rfl rfl ?_
    refine ax_s (pc' := 10) (st' := [.int 0, .int q]) rfl rfl rfl rfl ?_
    refine ax_s (pc' := 11) (st' := [.int 1, .int 0, .int q]) rfl rfl rfl rfl ?_
    refine ax_call (vs := [.int q, .int 0, .int 1]) (rr := []) rfl rfl rfl ?_
    refine mt_in ?_
    show am_ex (d + 10) 224 14 [some (.ref 285), some (.int p), some (.int q)] [.int (bI (decide (¬ q < 0 ∧ ¬ 1 < q)))] (am_hh X S L) _
    refine ax_pT rfl (fun c2 => ?_) (fun c2 => ?_)
    · exact absurd ⟨c1, c2⟩ hb
    · refine ax_s (pc' := 19) (st' := [.int (-1000001)]) rfl rfl rfl rfl ?_
      refine ax_r rfl rfl rfl ?_
      unfold eg_m_ask at hQ
      rw [if_pos c1, if_neg c2] at hQ
      exact hQ
