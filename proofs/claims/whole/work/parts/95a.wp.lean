theorem kt_isSuch_1_0 {d : Nat} {X : Nat × (Nat → Int32)} {S : Nat → Nat → Int32} {L : Nat → Int64} {Q : Option Value → am_H → Prop}  (k1 : Q (some (.int 1)) (am_hh X S L)) : am_mt (d + 1) 134 [.int 1, .int 0] (am_hh X S L) Q := by
  refine ax_in (ls := [some (.int 1), some (.int 0), none, none]) rfl ?_
  refine ax_s (pc' := 1) (st' := [.int 1]) rfl rfl rfl rfl ?_
  refine ax_s (pc' := 2) (ls' := [some (.int 1), some (.int 0), some (.int 1), none]) (st' := []) rfl rfl rfl rfl ?_
  refine ax_s (pc' := 3) (st' := [.int 0]) rfl rfl rfl rfl ?_
  refine ax_s (pc' := 4) (ls' := [some (.int 1), some (.int 0), some (.int 1), some (.int 0)]) (st' := []) rfl rfl rfl rfl ?_
  refine ax_s (pc' := 5) (st' := [.int 0]) rfl rfl rfl rfl ?_
  refine ax_s (pc' := 6) (st' := [.int 5, .int 0]) rfl rfl rfl rfl ?_
  refine ax_cmp_gt rfl (fun c1 => False.elim (by revert c1; decide)) (fun c1 => ?_)
  refine ax_s (pc' := 10) (st' := [.int 1]) rfl rfl rfl rfl ?_
  refine ax_call (vs := [.int 1]) (rr := []) rfl rfl rfl ?_
  refine ax_in (ls := [some (.int 1)]) rfl ?_
  refine ax_s (pc' := 1) (st' := [.int 1]) rfl rfl rfl rfl ?_
  refine ax_if_lt rfl (fun c2 => False.elim (by revert c2; decide)) (fun c2 => ?_)
  refine ax_s (pc' := 5) (st' := [.int 1]) rfl rfl rfl rfl ?_
  refine ax_s (pc' := 6) (st' := [.int 5, .int 1]) rfl rfl rfl rfl ?_
  refine ax_cmp_gt rfl (fun c3 => False.elim (by revert c3; decide)) (fun c3 => ?_)
  refine ax_s (pc' := 10) (st' := [.int 1]) rfl rfl rfl rfl ?_
  refine ax_s (pc' := 14) (st' := [.int 1]) rfl rfl rfl rfl ?_
  refine ax_rb (b := true) rfl rfl ?_
  show am_ex (d + 1) 134 13 [some (.int 1), some (.int 0), some (.int 1), some (.int 0)] [.int 1] (am_hh X S L) _
  refine ax_if_eq rfl (fun c4 => False.elim (by revert c4; decide)) (fun c4 => ?_)
  refine ax_s (pc' := 17) (st' := [.int 1]) rfl rfl rfl rfl ?_
  refine ax_s (pc' := 18) (st' := [.int 0, .int 1]) rfl rfl rfl rfl ?_
  refine ax_cmp_ne rfl (fun c5 => ?_) (fun c5 => False.elim (by revert c5; decide))
  refine ax_s (pc' := 26) (st' := [.ref 2]) rfl rfl rfl rfl ?_
  refine ax_s (pc' := 27) (st' := [.int 1, .ref 2]) rfl rfl rfl rfl ?_
  refine ax_ald (j := 1) (v := 0) rfl (hh_s2 _ _ _) rfl rfl (by decide) (by decide) rfl ?_
  refine ax_s (pc' := 29) (ls' := [some (.int 1), some (.int 0), some (.int 0), some (.int 0)]) (st' := []) rfl rfl rfl rfl ?_
  refine ax_s (pc' := 32) (ls' := [some (.int 1), some (.int 0), some (.int 0), some (.int 1)]) (st' := []) rfl rfl rfl rfl ?_
  refine ax_s (pc' := 4) (st' := []) rfl rfl rfl rfl ?_
  refine ax_s (pc' := 5) (st' := [.int 1]) rfl rfl rfl rfl ?_
  refine ax_s (pc' := 6) (st' := [.int 5, .int 1]) rfl rfl rfl rfl ?_
  refine ax_cmp_gt rfl (fun c6 => False.elim (by revert c6; decide)) (fun c6 => ?_)
  refine ax_s (pc' := 10) (st' := [.int 0]) rfl rfl rfl rfl ?_
  refine ax_call (vs := [.int 0]) (rr := []) rfl rfl rfl ?_
  refine ax_in (ls := [some (.int 0)]) rfl ?_
  refine ax_s (pc' := 1) (st' := [.int 0]) rfl rfl rfl rfl ?_
  refine ax_if_lt rfl (fun c7 => False.elim (by revert c7; decide)) (fun c7 => ?_)
  refine ax_s (pc' := 5) (st' := [.int 0]) rfl rfl rfl rfl ?_
  refine ax_s (pc' := 6) (st' := [.int 5, .int 0]) rfl rfl rfl rfl ?_
  refine ax_cmp_gt rfl (fun c8 => False.elim (by revert c8; decide)) (fun c8 => ?_)
  refine ax_s (pc' := 10) (st' := [.int 1]) rfl rfl rfl rfl ?_
  refine ax_s (pc' := 14) (st' := [.int 1]) rfl rfl rfl rfl ?_
  refine ax_rb (b := true) rfl rfl ?_
  show am_ex (d + 1) 134 13 [some (.int 1), some (.int 0), some (.int 0), some (.int 1)] [.int 1] (am_hh X S L) _
  refine ax_if_eq rfl (fun c9 => False.elim (by revert c9; decide)) (fun c9 => ?_)
  refine ax_s (pc' := 17) (st' := [.int 0]) rfl rfl rfl rfl ?_
  refine ax_s (pc' := 18) (st' := [.int 0, .int 0]) rfl rfl rfl rfl ?_
  refine ax_cmp_ne rfl (fun c10 => False.elim (by revert c10; decide)) (fun c10 => ?_)
  refine ax_s (pc' := 22) (st' := [.int 1]) rfl rfl rfl rfl ?_
  refine ax_rb (b := true) rfl rfl ?_
  exact k1
theorem kt_isSuch_1_1 {d : Nat} {X : Nat × (Nat → Int32)} {S : Nat → Nat → Int32} {L : Nat → Int64} {Q : Option Value → am_H → Prop}  (k1 : Q (some (.int 1)) (am_hh X S L)) : am_mt (d + 1) 134 [.int 1, .int 1] (am_hh X S L) Q := by
  refine ax_in (ls := [some (.int 1), some (.int 1), none, none]) rfl ?_
  refine ax_s (pc' := 1) (st' := [.int 1]) rfl rfl rfl rfl ?_
  refine ax_s (pc' := 2) (ls' := [some (.int 1), some (.int 1), some (.int 1), none]) (st' := []) rfl rfl rfl rfl ?_
  refine ax_s (pc' := 3) (st' := [.int 0]) rfl rfl rfl rfl ?_
  refine ax_s (pc' := 4) (ls' := [some (.int 1), some (.int 1), some (.int 1), some (.int 0)]) (st' := []) rfl rfl rfl rfl ?_
  refine ax_s (pc' := 5) (st' := [.int 0]) rfl rfl rfl rfl ?_
  refine ax_s (pc' := 6) (st' := [.int 5, .int 0]) rfl rfl rfl rfl ?_
  refine ax_cmp_gt rfl (fun c1 => False.elim (by revert c1; decide)) (fun c1 => ?_)
  refine ax_s (pc' := 10) (st' := [.int 1]) rfl rfl rfl rfl ?_
  refine ax_call (vs := [.int 1]) (rr := []) rfl rfl rfl ?_
  refine ax_in (ls := [some (.int 1)]) rfl ?_
  refine ax_s (pc' := 1) (st' := [.int 1]) rfl rfl rfl rfl ?_
  refine ax_if_lt rfl (fun c2 => False.elim (by revert c2; decide)) (fun c2 => ?_)
  refine ax_s (pc' := 5) (st' := [.int 1]) rfl rfl rfl rfl ?_
  refine ax_s (pc' := 6) (st' := [.int 5, .int 1]) rfl rfl rfl rfl ?_
  refine ax_cmp_gt rfl (fun c3 => False.elim (by revert c3; decide)) (fun c3 => ?_)
  refine ax_s (pc' := 10) (st' := [.int 1]) rfl rfl rfl rfl ?_
  refine ax_s (pc' := 14) (st' := [.int 1]) rfl rfl rfl rfl ?_
  refine ax_rb (b := true) rfl rfl ?_
  show am_ex (d + 1) 134 13 [some (.int 1), some (.int 1), some (.int 1), some (.int 0)] [.int 1] (am_hh X S L) _
  refine ax_if_eq rfl (fun c4 => False.elim (by revert c4; decide)) (fun c4 => ?_)
  refine ax_s (pc' := 17) (st' := [.int 1]) rfl rfl rfl rfl ?_
  refine ax_s (pc' := 18) (st' := [.int 1, .int 1]) rfl rfl rfl rfl ?_
  refine ax_cmp_ne rfl (fun c5 => False.elim (by revert c5; decide)) (fun c5 => ?_)
  refine ax_s (pc' := 22) (st' := [.int 1]) rfl rfl rfl rfl ?_
  refine ax_rb (b := true) rfl rfl ?_
  exact k1
theorem kt_isSuch_1_2 {d : Nat} {X : Nat × (Nat → Int32)} {S : Nat → Nat → Int32} {L : Nat → Int64} {Q : Option Value → am_H → Prop}  (k1 : Q (some (.int 0)) (am_hh X S L)) : am_mt (d + 1) 134 [.int 1, .int 2] (am_hh X S L) Q := by
  refine ax_in (ls := [some (.int 1), some (.int 2), none, none]) rfl ?_
  refine ax_s (pc' := 1) (st' := [.int 1]) rfl rfl rfl rfl ?_
  refine ax_s (pc' := 2) (ls' := [some (.int 1), some (.int 2), some (.int 1), none]) (st' := []) rfl rfl rfl rfl ?_
  refine ax_s (pc' := 3) (st' := [.int 0]) rfl rfl rfl rfl ?_
  refine ax_s (pc' := 4) (ls' := [some (.int 1), some (.int 2), some (.int 1), some (.int 0)]) (st' := []) rfl rfl rfl rfl ?_
  refine ax_s (pc' := 5) (st' := [.int 0]) rfl rfl rfl rfl ?_
  refine ax_s (pc' := 6) (st' := [.int 5, .int 0]) rfl rfl rfl rfl ?_
  refine ax_cmp_gt rfl (fun c1 => False.elim (by revert c1; decide)) (fun c1 => ?_)
  refine ax_s (pc' := 10) (st' := [.int 1]) rfl rfl rfl rfl ?_
  refine ax_call (vs := [.int 1]) (rr := []) rfl rfl rfl ?_
  refine ax_in (ls := [some (.int 1)]) rfl ?_
  refine ax_s (pc' := 1) (st' := [.int 1]) rfl rfl rfl rfl ?_
  refine ax_if_lt rfl (fun c2 => False.elim (by revert c2; decide)) (fun c2 => ?_)
  refine ax_s (pc' := 5) (st' := [.int 1]) rfl rfl rfl rfl ?_
  refine ax_s (pc' := 6) (st' := [.int 5, .int 1]) rfl rfl rfl rfl ?_
  refine ax_cmp_gt rfl (fun c3 => False.elim (by revert c3; decide)) (fun c3 => ?_)
  refine ax_s (pc' := 10) (st' := [.int 1]) rfl rfl rfl rfl ?_
  refine ax_s (pc' := 14) (st' := [.int 1]) rfl rfl rfl rfl ?_
  refine ax_rb (b := true) rfl rfl ?_
  show am_ex (d + 1) 134 13 [some (.int 1), some (.int 2), some (.int 1), some (.int 0)] [.int 1] (am_hh X S L) _
  refine ax_if_eq rfl (fun c4 => False.elim (by revert c4; decide)) (fun c4 => ?_)
  refine ax_s (pc' := 17) (st' := [.int 1]) rfl rfl rfl rfl ?_
  refine ax_s (pc' := 18) (st' := [.int 2, .int 1]) rfl rfl rfl rfl ?_
  refine ax_cmp_ne rfl (fun c5 => ?_) (fun c5 => False.elim (by revert c5; decide))
  refine ax_s (pc' := 26) (st' := [.ref 2]) rfl rfl rfl rfl ?_
  refine ax_s (pc' := 27) (st' := [.int 1, .ref 2]) rfl rfl rfl rfl ?_
  refine ax_ald (j := 1) (v := 0) rfl (hh_s2 _ _ _) rfl rfl (by decide) (by decide) rfl ?_
  refine ax_s (pc' := 29) (ls' := [some (.int 1), some (.int 2), some (.int 0), some (.int 0)]) (st' := []) rfl rfl rfl rfl ?_
  refine ax_s (pc' := 32) (ls' := [some (.int 1), some (.int 2), some (.int 0), some (.int 1)]) (st' := []) rfl rfl rfl rfl ?_
  refine ax_s (pc' := 4) (st' := []) rfl rfl rfl rfl ?_
  refine ax_s (pc' := 5) (st' := [.int 1]) rfl rfl rfl rfl ?_
  refine ax_s (pc' := 6) (st' := [.int 5, .int 1]) rfl rfl rfl rfl ?_
  refine ax_cmp_gt rfl (fun c6 => False.elim (by revert c6; decide)) (fun c6 => ?_)
  refine ax_s (pc' := 10) (st' := [.int 0]) rfl rfl rfl rfl ?_
  refine ax_call (vs := [.int 0]) (rr := []) rfl rfl rfl ?_
  refine ax_in (ls := [some (.int 0)]) rfl ?_
  refine ax_s (pc' := 1) (st' := [.int 0]) rfl rfl rfl rfl ?_
  refine ax_if_lt rfl (fun c7 => False.elim (by revert c7; decide)) (fun c7 => ?_)
  refine ax_s (pc' := 5) (st' := [.int 0]) rfl rfl rfl rfl ?_
  refine ax_s (pc' := 6) (st' := [.int 5, .int 0]) rfl rfl rfl rfl ?_
  refine ax_cmp_gt rfl (fun c8 => False.elim (by revert c8; decide)) (fun c8 => ?_)
  refine ax_s (pc' := 10) (st' := [.int 1]) rfl rfl rfl rfl ?_
  refine ax_s (pc' := 14) (st' := [.int 1]) rfl rfl rfl rfl ?_
  refine ax_rb (b := true) rfl rfl ?_
  show am_ex (d + 1) 134 13 [some (.int 1), some (.int 2), some (.int 0), some (.int 1)] [.int 1] (am_hh X S L) _
  refine ax_if_eq rfl (fun c9 => False.elim (by revert c9; decide)) (fun c9 => ?_)
  refine ax_s (pc' := 17) (st' := [.int 0]) rfl rfl rfl rfl ?_
  refine ax_s (pc' := 18) (st' := [.int 2, .int 0]) rfl rfl rfl rfl ?_
  refine ax_cmp_ne rfl (fun c10 => ?_) (fun c10 => False.elim (by revert c10; decide))
  refine ax_s (pc' := 26) (st' := [.ref 2]) rfl rfl rfl rfl ?_
  refine ax_s (pc' := 27) (st' := [.int 0, .ref 2]) rfl rfl rfl rfl ?_
  refine ax_ald (j := 0) (v := (-1000000)) rfl (hh_s2 _ _ _) rfl rfl (by decide) (by decide) rfl ?_
  refine ax_s (pc' := 29) (ls' := [some (.int 1), some (.int 2), some (.int (-1000000)), some (.int 1)]) (st' := []) rfl rfl rfl rfl ?_
  refine ax_s (pc' := 32) (ls' := [some (.int 1), some (.int 2), some (.int (-1000000)), some (.int 2)]) (st' := []) rfl rfl rfl rfl ?_
  refine ax_s (pc' := 4) (st' := []) rfl rfl rfl rfl ?_
  refine ax_s (pc' := 5) (st' := [.int 2]) rfl rfl rfl rfl ?_
  refine ax_s (pc' := 6) (st' := [.int 5, .int 2]) rfl rfl rfl rfl ?_
  refine ax_cmp_gt rfl (fun c11 => False.elim (by revert c11; decide)) (fun c11 => ?_)
  refine ax_s (pc' := 10) (st' := [.int (-1000000)]) rfl rfl rfl rfl ?_
  refine ax_call (vs := [.int (-1000000)]) (rr := []) rfl rfl rfl ?_
  refine ax_in (ls := [some (.int (-1000000))]) rfl ?_
  refine ax_s (pc' := 1) (st' := [.int (-1000000)]) rfl rfl rfl rfl ?_
  refine ax_if_lt rfl (fun c12 => ?_) (fun c12 => False.elim (by revert c12; decide))
  refine ax_s (pc' := 14) (st' := [.int 0]) rfl rfl rfl rfl ?_
  refine ax_rb (b := false) rfl rfl ?_
  show am_ex (d + 1) 134 13 [some (.int 1), some (.int 2), some (.int (-1000000)), some (.int 2)] [.int 0] (am_hh X S L) _
  refine ax_if_eq rfl (fun c13 => ?_) (fun c13 => False.elim (by revert c13; decide))
  refine ax_s (pc' := 36) (st' := [.int 0]) rfl rfl rfl rfl ?_
  refine ax_rb (b := false) rfl rfl ?_
  exact k1
theorem kt_isSuch_1_3 {d : Nat} {X : Nat × (Nat → Int32)} {S : Nat → Nat → Int32} {L : Nat → Int64} {Q : Option Value → am_H → Prop}  (k1 : Q (some (.int 0)) (am_hh X S L)) : am_mt (d + 1) 134 [.int 1, .int 3] (am_hh X S L) Q := by
  refine ax_in (ls := [some (.int 1), some (.int 3), none, none]) rfl ?_
  refine ax_s (pc' := 1) (st' := [.int 1]) rfl rfl rfl rfl ?_
  refine ax_s (pc' := 2) (ls' := [some (.int 1), some (.int 3), some (.int 1), none]) (st' := []) rfl rfl rfl rfl ?_
  refine ax_s (pc' := 3) (st' := [.int 0]) rfl rfl rfl rfl ?_
  refine ax_s (pc' := 4) (ls' := [some (.int 1), some (.int 3), some (.int 1), some (.int 0)]) (st' := []) rfl rfl rfl rfl ?_
  refine ax_s (pc' := 5) (st' := [.int 0]) rfl rfl rfl rfl ?_
  refine ax_s (pc' := 6) (st' := [.int 5, .int 0]) rfl rfl rfl rfl ?_
  refine ax_cmp_gt rfl (fun c1 => False.elim (by revert c1; decide)) (fun c1 => ?_)
  refine ax_s (pc' := 10) (st' := [.int 1]) rfl rfl rfl rfl ?_
  refine ax_call (vs := [.int 1]) (rr := []) rfl rfl rfl ?_
  refine ax_in (ls := [some (.int 1)]) rfl ?_
  refine ax_s (pc' := 1) (st' := [.int 1]) rfl rfl rfl rfl ?_
  refine ax_if_lt rfl (fun c2 => False.elim (by revert c2; decide)) (fun c2 => ?_)
  refine ax_s (pc' := 5) (st' := [.int 1]) rfl rfl rfl rfl ?_
  refine ax_s (pc' := 6) (st' := [.int 5, .int 1]) rfl rfl rfl rfl ?_
  refine ax_cmp_gt rfl (fun c3 => False.elim (by revert c3; decide)) (fun c3 => ?_)
  refine ax_s (pc' := 10) (st' := [.int 1]) rfl rfl rfl rfl ?_
  refine ax_s (pc' := 14) (st' := [.int 1]) rfl rfl rfl rfl ?_
  refine ax_rb (b := true) rfl rfl ?_
  show am_ex (d + 1) 134 13 [some (.int 1), some (.int 3), some (.int 1), some (.int 0)] [.int 1] (am_hh X S L) _
  refine ax_if_eq rfl (fun c4 => False.elim (by revert c4; decide)) (fun c4 => ?_)
  refine ax_s (pc' := 17) (st' := [.int 1]) rfl rfl rfl rfl ?_
  refine ax_s (pc' := 18) (st' := [.int 3, .int 1]) rfl rfl rfl rfl ?_
  refine ax_cmp_ne rfl (fun c5 => ?_) (fun c5 => False.elim (by revert c5; decide))
  refine ax_s (pc' := 26) (st' := [.ref 2]) rfl rfl rfl rfl ?_
  refine ax_s (pc' := 27) (st' := [.int 1, .ref 2]) rfl rfl rfl rfl ?_
  refine ax_ald (j := 1) (v := 0) rfl (hh_s2 _ _ _) rfl rfl (by decide) (by decide) rfl ?_
  refine ax_s (pc' := 29) (ls' := [some (.int 1), some (.int 3), some (.int 0), some (.int 0)]) (st' := []) rfl rfl rfl rfl ?_
  refine ax_s (pc' := 32) (ls' := [some (.int 1), some (.int 3), some (.int 0), some (.int 1)]) (st' := []) rfl rfl rfl rfl ?_
  refine ax_s (pc' := 4) (st' := []) rfl rfl rfl rfl ?_
  refine ax_s (pc' := 5) (st' := [.int 1]) rfl rfl rfl rfl ?_
  refine ax_s (pc' := 6) (st' := [.int 5, .int 1]) rfl rfl rfl rfl ?_
  refine ax_cmp_gt rfl (fun c6 => False.elim (by revert c6; decide)) (fun c6 => ?_)
  refine ax_s (pc' := 10) (st' := [.int 0]) rfl rfl rfl rfl ?_
  refine ax_call (vs := [.int 0]) (rr := []) rfl rfl rfl ?_
  refine ax_in (ls := [some (.int 0)]) rfl ?_
  refine ax_s (pc' := 1) (st' := [.int 0]) rfl rfl rfl rfl ?_
  refine ax_if_lt rfl (fun c7 => False.elim (by revert c7; decide)) (fun c7 => ?_)
  refine ax_s (pc' := 5) (st' := [.int 0]) rfl rfl rfl rfl ?_
  refine ax_s (pc' := 6) (st' := [.int 5, .int 0]) rfl rfl rfl rfl ?_
  refine ax_cmp_gt rfl (fun c8 => False.elim (by revert c8; decide)) (fun c8 => ?_)
  refine ax_s (pc' := 10) (st' := [.int 1]) rfl rfl rfl rfl ?_
  refine ax_s (pc' := 14) (st' := [.int 1]) rfl rfl rfl rfl ?_
  refine ax_rb (b := true) rfl rfl ?_
  show am_ex (d + 1) 134 13 [some (.int 1), some (.int 3), some (.int 0), some (.int 1)] [.int 1] (am_hh X S L) _
  refine ax_if_eq rfl (fun c9 => False.elim (by revert c9; decide)) (fun c9 => ?_)
  refine ax_s (pc' := 17) (st' := [.int 0]) rfl rfl rfl rfl ?_
  refine ax_s (pc' := 18) (st' := [.int 3, .int 0]) rfl rfl rfl rfl ?_
  refine ax_cmp_ne rfl (fun c10 => ?_) (fun c10 => False.elim (by revert c10; decide))
  refine ax_s (pc' := 26) (st' := [.ref 2]) rfl rfl rfl rfl ?_
  refine ax_s (pc' := 27) (st' := [.int 0, .ref 2]) rfl rfl rfl rfl ?_
  refine ax_ald (j := 0) (v := (-1000000)) rfl (hh_s2 _ _ _) rfl rfl (by decide) (by decide) rfl ?_
  refine ax_s (pc' := 29) (ls' := [some (.int 1), some (.int 3), some (.int (-1000000)), some (.int 1)]) (st' := []) rfl rfl rfl rfl ?_
  refine ax_s (pc' := 32) (ls' := [some (.int 1), some (.int 3), some (.int (-1000000)), some (.int 2)]) (st' := []) rfl rfl rfl rfl ?_
  refine ax_s (pc' := 4) (st' := []) rfl rfl rfl rfl ?_
  refine ax_s (pc' := 5) (st' := [.int 2]) rfl rfl rfl rfl ?_
  refine ax_s (pc' := 6) (st' := [.int 5, .int 2]) rfl rfl rfl rfl ?_
  refine ax_cmp_gt rfl (fun c11 => False.elim (by revert c11; decide)) (fun c11 => ?_)
  refine ax_s (pc' := 10) (st' := [.int (-1000000)]) rfl rfl rfl rfl ?_
  refine ax_call (vs := [.int (-1000000)]) (rr := []) rfl rfl rfl ?_
  refine ax_in (ls := [some (.int (-1000000))]) rfl ?_
  refine ax_s (pc' := 1) (st' := [.int (-1000000)]) rfl rfl rfl rfl ?_
  refine ax_if_lt rfl (fun c12 => ?_) (fun c12 => False.elim (by revert c12; decide))
  refine ax_s (pc' := 14) (st' := [.int 0]) rfl rfl rfl rfl ?_
  refine ax_rb (b := false) rfl rfl ?_
  show am_ex (d + 1) 134 13 [some (.int 1), some (.int 3), some (.int (-1000000)), some (.int 2)] [.int 0] (am_hh X S L) _
  refine ax_if_eq rfl (fun c13 => ?_) (fun c13 => False.elim (by revert c13; decide))
  refine ax_s (pc' := 36) (st' := [.int 0]) rfl rfl rfl rfl ?_
  refine ax_rb (b := false) rfl rfl ?_
  exact k1
theorem kt_isSuch_1_4 {d : Nat} {X : Nat × (Nat → Int32)} {S : Nat → Nat → Int32} {L : Nat → Int64} {Q : Option Value → am_H → Prop}  (k1 : Q (some (.int 0)) (am_hh X S L)) : am_mt (d + 1) 134 [.int 1, .int 4] (am_hh X S L) Q := by
  refine ax_in (ls := [some (.int 1), some (.int 4), none, none]) rfl ?_
  refine ax_s (pc' := 1) (st' := [.int 1]) rfl rfl rfl rfl ?_
  refine ax_s (pc' := 2) (ls' := [some (.int 1), some (.int 4), some (.int 1), none]) (st' := []) rfl rfl rfl rfl ?_
  refine ax_s (pc' := 3) (st' := [.int 0]) rfl rfl rfl rfl ?_
  refine ax_s (pc' := 4) (ls' := [some (.int 1), some (.int 4), some (.int 1), some (.int 0)]) (st' := []) rfl rfl rfl rfl ?_
  refine ax_s (pc' := 5) (st' := [.int 0]) rfl rfl rfl rfl ?_
  refine ax_s (pc' := 6) (st' := [.int 5, .int 0]) rfl rfl rfl rfl ?_
  refine ax_cmp_gt rfl (fun c1 => False.elim (by revert c1; decide)) (fun c1 => ?_)
  refine ax_s (pc' := 10) (st' := [.int 1]) rfl rfl rfl rfl ?_
  refine ax_call (vs := [.int 1]) (rr := []) rfl rfl rfl ?_
  refine ax_in (ls := [some (.int 1)]) rfl ?_
  refine ax_s (pc' := 1) (st' := [.int 1]) rfl rfl rfl rfl ?_
  refine ax_if_lt rfl (fun c2 => False.elim (by revert c2; decide)) (fun c2 => ?_)
  refine ax_s (pc' := 5) (st' := [.int 1]) rfl rfl rfl rfl ?_
  refine ax_s (pc' := 6) (st' := [.int 5, .int 1]) rfl rfl rfl rfl ?_
  refine ax_cmp_gt rfl (fun c3 => False.elim (by revert c3; decide)) (fun c3 => ?_)
  refine ax_s (pc' := 10) (st' := [.int 1]) rfl rfl rfl rfl ?_
  refine ax_s (pc' := 14) (st' := [.int 1]) rfl rfl rfl rfl ?_
  refine ax_rb (b := true) rfl rfl ?_
  show am_ex (d + 1) 134 13 [some (.int 1), some (.int 4), some (.int 1), some (.int 0)] [.int 1] (am_hh X S L) _
  refine ax_if_eq rfl (fun c4 => False.elim (by revert c4; decide)) (fun c4 => ?_)
  refine ax_s (pc' := 17) (st' := [.int 1]) rfl rfl rfl rfl ?_
  refine ax_s (pc' := 18) (st' := [.int 4, .int 1]) rfl rfl rfl rfl ?_
  refine ax_cmp_ne rfl (fun c5 => ?_) (fun c5 => False.elim (by revert c5; decide))
  refine ax_s (pc' := 26) (st' := [.ref 2]) rfl rfl rfl rfl ?_
  refine ax_s (pc' := 27) (st' := [.int 1, .ref 2]) rfl rfl rfl rfl ?_
  refine ax_ald (j := 1) (v := 0) rfl (hh_s2 _ _ _) rfl rfl (by decide) (by decide) rfl ?_
  refine ax_s (pc' := 29) (ls' := [some (.int 1), some (.int 4), some (.int 0), some (.int 0)]) (st' := []) rfl rfl rfl rfl ?_
  refine ax_s (pc' := 32) (ls' := [some (.int 1), some (.int 4), some (.int 0), some (.int 1)]) (st' := []) rfl rfl rfl rfl ?_
  refine ax_s (pc' := 4) (st' := []) rfl rfl rfl rfl ?_
  refine ax_s (pc' := 5) (st' := [.int 1]) rfl rfl rfl rfl ?_
  refine ax_s (pc' := 6) (st' := [.int 5, .int 1]) rfl rfl rfl rfl ?_
  refine ax_cmp_gt rfl (fun c6 => False.elim (by revert c6; decide)) (fun c6 => ?_)
  refine ax_s (pc' := 10) (st' := [.int 0]) rfl rfl rfl rfl ?_
  refine ax_call (vs := [.int 0]) (rr := []) rfl rfl rfl ?_
  refine ax_in (ls := [some (.int 0)]) rfl ?_
  refine ax_s (pc' := 1) (st' := [.int 0]) rfl rfl rfl rfl ?_
  refine ax_if_lt rfl (fun c7 => False.elim (by revert c7; decide)) (fun c7 => ?_)
  refine ax_s (pc' := 5) (st' := [.int 0]) rfl rfl rfl rfl ?_
  refine ax_s (pc' := 6) (st' := [.int 5, .int 0]) rfl rfl rfl rfl ?_
  refine ax_cmp_gt rfl (fun c8 => False.elim (by revert c8; decide)) (fun c8 => ?_)
  refine ax_s (pc' := 10) (st' := [.int 1]) rfl rfl rfl rfl ?_
  refine ax_s (pc' := 14) (st' := [.int 1]) rfl rfl rfl rfl ?_
  refine ax_rb (b := true) rfl rfl ?_
  show am_ex (d + 1) 134 13 [some (.int 1), some (.int 4), some (.int 0), some (.int 1)] [.int 1] (am_hh X S L) _
  refine ax_if_eq rfl (fun c9 => False.elim (by revert c9; decide)) (fun c9 => ?_)
  refine ax_s (pc' := 17) (st' := [.int 0]) rfl rfl rfl rfl ?_
  refine ax_s (pc' := 18) (st' := [.int 4, .int 0]) rfl rfl rfl rfl ?_
  refine ax_cmp_ne rfl (fun c10 => ?_) (fun c10 => False.elim (by revert c10; decide))
  refine ax_s (pc' := 26) (st' := [.ref 2]) rfl rfl rfl rfl ?_
  refine ax_s (pc' := 27) (st' := [.int 0, .ref 2]) rfl rfl rfl rfl ?_
  refine ax_ald (j := 0) (v := (-1000000)) rfl (hh_s2 _ _ _) rfl rfl (by decide) (by decide) rfl ?_
  refine ax_s (pc' := 29) (ls' := [some (.int 1), some (.int 4), some (.int (-1000000)), some (.int 1)]) (st' := []) rfl rfl rfl rfl ?_
  refine ax_s (pc' := 32) (ls' := [some (.int 1), some (.int 4), some (.int (-1000000)), some (.int 2)]) (st' := []) rfl rfl rfl rfl ?_
  refine ax_s (pc' := 4) (st' := []) rfl rfl rfl rfl ?_
  refine ax_s (pc' := 5) (st' := [.int 2]) rfl rfl rfl rfl ?_
  refine ax_s (pc' := 6) (st' := [.int 5, .int 2]) rfl rfl rfl rfl ?_
  refine ax_cmp_gt rfl (fun c11 => False.elim (by revert c11; decide)) (fun c11 => ?_)
  refine ax_s (pc' := 10) (st' := [.int (-1000000)]) rfl rfl rfl rfl ?_
  refine ax_call (vs := [.int (-1000000)]) (rr := []) rfl rfl rfl ?_
  refine ax_in (ls := [some (.int (-1000000))]) rfl ?_
  refine ax_s (pc' := 1) (st' := [.int (-1000000)]) rfl rfl rfl rfl ?_
  refine ax_if_lt rfl (fun c12 => ?_) (fun c12 => False.elim (by revert c12; decide))
  refine ax_s (pc' := 14) (st' := [.int 0]) rfl rfl rfl rfl ?_
  refine ax_rb (b := false) rfl rfl ?_
  show am_ex (d + 1) 134 13 [some (.int 1), some (.int 4), some (.int (-1000000)), some (.int 2)] [.int 0] (am_hh X S L) _
  refine ax_if_eq rfl (fun c13 => ?_) (fun c13 => False.elim (by revert c13; decide))
  refine ax_s (pc' := 36) (st' := [.int 0]) rfl rfl rfl rfl ?_
  refine ax_rb (b := false) rfl rfl ?_
  exact k1
theorem kt_isSuch_1_5 {d : Nat} {X : Nat × (Nat → Int32)} {S : Nat → Nat → Int32} {L : Nat → Int64} {Q : Option Value → am_H → Prop}  (k1 : Q (some (.int 0)) (am_hh X S L)) : am_mt (d + 1) 134 [.int 1, .int 5] (am_hh X S L) Q := by
  refine ax_in (ls := [some (.int 1), some (.int 5), none, none]) rfl ?_
  refine ax_s (pc' := 1) (st' := [.int 1]) rfl rfl rfl rfl ?_
  refine ax_s (pc' := 2) (ls' := [some (.int 1), some (.int 5), some (.int 1), none]) (st' := []) rfl rfl rfl rfl ?_
  refine ax_s (pc' := 3) (st' := [.int 0]) rfl rfl rfl rfl ?_
  refine ax_s (pc' := 4) (ls' := [some (.int 1), some (.int 5), some (.int 1), some (.int 0)]) (st' := []) rfl rfl rfl rfl ?_
  refine ax_s (pc' := 5) (st' := [.int 0]) rfl rfl rfl rfl ?_
  refine ax_s (pc' := 6) (st' := [.int 5, .int 0]) rfl rfl rfl rfl ?_
  refine ax_cmp_gt rfl (fun c1 => False.elim (by revert c1; decide)) (fun c1 => ?_)
  refine ax_s (pc' := 10) (st' := [.int 1]) rfl rfl rfl rfl ?_
  refine ax_call (vs := [.int 1]) (rr := []) rfl rfl rfl ?_
  refine ax_in (ls := [some (.int 1)]) rfl ?_
  refine ax_s (pc' := 1) (st' := [.int 1]) rfl rfl rfl rfl ?_
  refine ax_if_lt rfl (fun c2 => False.elim (by revert c2; decide)) (fun c2 => ?_)
  refine ax_s (pc' := 5) (st' := [.int 1]) rfl rfl rfl rfl ?_
  refine ax_s (pc' := 6) (st' := [.int 5, .int 1]) rfl rfl rfl rfl ?_
  refine ax_cmp_gt rfl (fun c3 => False.elim (by revert c3; decide)) (fun c3 => ?_)
  refine ax_s (pc' := 10) (st' := [.int 1]) rfl rfl rfl rfl ?_
  refine ax_s (pc' := 14) (st' := [.int 1]) rfl rfl rfl rfl ?_
  refine ax_rb (b := true) rfl rfl ?_
  show am_ex (d + 1) 134 13 [some (.int 1), some (.int 5), some (.int 1), some (.int 0)] [.int 1] (am_hh X S L) _
  refine ax_if_eq rfl (fun c4 => False.elim (by revert c4; decide)) (fun c4 => ?_)
  refine ax_s (pc' := 17) (st' := [.int 1]) rfl rfl rfl rfl ?_
  refine ax_s (pc' := 18) (st' := [.int 5, .int 1]) rfl rfl rfl rfl ?_
  refine ax_cmp_ne rfl (fun c5 => ?_) (fun c5 => False.elim (by revert c5; decide))
  refine ax_s (pc' := 26) (st' := [.ref 2]) rfl rfl rfl rfl ?_
  refine ax_s (pc' := 27) (st' := [.int 1, .ref 2]) rfl rfl rfl rfl ?_
  refine ax_ald (j := 1) (v := 0) rfl (hh_s2 _ _ _) rfl rfl (by decide) (by decide) rfl ?_
  refine ax_s (pc' := 29) (ls' := [some (.int 1), some (.int 5), some (.int 0), some (.int 0)]) (st' := []) rfl rfl rfl rfl ?_
  refine ax_s (pc' := 32) (ls' := [some (.int 1), some (.int 5), some (.int 0), some (.int 1)]) (st' := []) rfl rfl rfl rfl ?_
  refine ax_s (pc' := 4) (st' := []) rfl rfl rfl rfl ?_
  refine ax_s (pc' := 5) (st' := [.int 1]) rfl rfl rfl rfl ?_
  refine ax_s (pc' := 6) (st' := [.int 5, .int 1]) rfl rfl rfl rfl ?_
  refine ax_cmp_gt rfl (fun c6 => False.elim (by revert c6; decide)) (fun c6 => ?_)
  refine ax_s (pc' := 10) (st' := [.int 0]) rfl rfl rfl rfl ?_
  refine ax_call (vs := [.int 0]) (rr := []) rfl rfl rfl ?_
  refine ax_in (ls := [some (.int 0)]) rfl ?_
  refine ax_s (pc' := 1) (st' := [.int 0]) rfl rfl rfl rfl ?_
  refine ax_if_lt rfl (fun c7 => False.elim (by revert c7; decide)) (fun c7 => ?_)
  refine ax_s (pc' := 5) (st' := [.int 0]) rfl rfl rfl rfl ?_
  refine ax_s (pc' := 6) (st' := [.int 5, .int 0]) rfl rfl rfl rfl ?_
  refine ax_cmp_gt rfl (fun c8 => False.elim (by revert c8; decide)) (fun c8 => ?_)
  refine ax_s (pc' := 10) (st' := [.int 1]) rfl rfl rfl rfl ?_
  refine ax_s (pc' := 14) (st' := [.int 1]) rfl rfl rfl rfl ?_
  refine ax_rb (b := true) rfl rfl ?_
  show am_ex (d + 1) 134 13 [some (.int 1), some (.int 5), some (.int 0), some (.int 1)] [.int 1] (am_hh X S L) _
  refine ax_if_eq rfl (fun c9 => False.elim (by revert c9; decide)) (fun c9 => ?_)
  refine ax_s (pc' := 17) (st' := [.int 0]) rfl rfl rfl rfl ?_
  refine ax_s (pc' := 18) (st' := [.int 5, .int 0]) rfl rfl rfl rfl ?_
  refine ax_cmp_ne rfl (fun c10 => ?_) (fun c10 => False.elim (by revert c10; decide))
  refine ax_s (pc' := 26) (st' := [.ref 2]) rfl rfl rfl rfl ?_
  refine ax_s (pc' := 27) (st' := [.int 0, .ref 2]) rfl rfl rfl rfl ?_
  refine ax_ald (j := 0) (v := (-1000000)) rfl (hh_s2 _ _ _) rfl rfl (by decide) (by decide) rfl ?_
  refine ax_s (pc' := 29) (ls' := [some (.int 1), some (.int 5), some (.int (-1000000)), some (.int 1)]) (st' := []) rfl rfl rfl rfl ?_
  refine ax_s (pc' := 32) (ls' := [some (.int 1), some (.int 5), some (.int (-1000000)), some (.int 2)]) (st' := []) rfl rfl rfl rfl ?_
  refine ax_s (pc' := 4) (st' := []) rfl rfl rfl rfl ?_
  refine ax_s (pc' := 5) (st' := [.int 2]) rfl rfl rfl rfl ?_
  refine ax_s (pc' := 6) (st' := [.int 5, .int 2]) rfl rfl rfl rfl ?_
  refine ax_cmp_gt rfl (fun c11 => False.elim (by revert c11; decide)) (fun c11 => ?_)
  refine ax_s (pc' := 10) (st' := [.int (-1000000)]) rfl rfl rfl rfl ?_
  refine ax_call (vs := [.int (-1000000)]) (rr := []) rfl rfl rfl ?_
  refine ax_in (ls := [some (.int (-1000000))]) rfl ?_
  refine ax_s (pc' := 1) (st' := [.int (-1000000)]) rfl rfl rfl rfl ?_
  refine ax_if_lt rfl (fun c12 => ?_) (fun c12 => False.elim (by revert c12; decide))
  refine ax_s (pc' := 14) (st' := [.int 0]) rfl rfl rfl rfl ?_
  refine ax_rb (b := false) rfl rfl ?_
  show am_ex (d + 1) 134 13 [some (.int 1), some (.int 5), some (.int (-1000000)), some (.int 2)] [.int 0] (am_hh X S L) _
  refine ax_if_eq rfl (fun c13 => ?_) (fun c13 => False.elim (by revert c13; decide))
  refine ax_s (pc' := 36) (st' := [.int 0]) rfl rfl rfl rfl ?_
  refine ax_rb (b := false) rfl rfl ?_
  exact k1
theorem kt_isSuch_2_0 {d : Nat} {X : Nat × (Nat → Int32)} {S : Nat → Nat → Int32} {L : Nat → Int64} {Q : Option Value → am_H → Prop}  (k1 : Q (some (.int 1)) (am_hh X S L)) : am_mt (d + 1) 134 [.int 2, .int 0] (am_hh X S L) Q := by
  refine ax_in (ls := [some (.int 2), some (.int 0), none, none]) rfl ?_
  refine ax_s (pc' := 1) (st' := [.int 2]) rfl rfl rfl rfl ?_
  refine ax_s (pc' := 2) (ls' := [some (.int 2), some (.int 0), some (.int 2), none]) (st' := []) rfl rfl rfl rfl ?_
  refine ax_s (pc' := 3) (st' := [.int 0]) rfl rfl rfl rfl ?_
  refine ax_s (pc' := 4) (ls' := [some (.int 2), some (.int 0), some (.int 2), some (.int 0)]) (st' := []) rfl rfl rfl rfl ?_
  refine ax_s (pc' := 5) (st' := [.int 0]) rfl rfl rfl rfl ?_
  refine ax_s (pc' := 6) (st' := [.int 5, .int 0]) rfl rfl rfl rfl ?_
  refine ax_cmp_gt rfl (fun c1 => False.elim (by revert c1; decide)) (fun c1 => ?_)
  refine ax_s (pc' := 10) (st' := [.int 2]) rfl rfl rfl rfl ?_
  refine ax_call (vs := [.int 2]) (rr := []) rfl rfl rfl ?_
  refine ax_in (ls := [some (.int 2)]) rfl ?_
  refine ax_s (pc' := 1) (st' := [.int 2]) rfl rfl rfl rfl ?_
  refine ax_if_lt rfl (fun c2 => False.elim (by revert c2; decide)) (fun c2 => ?_)
  refine ax_s (pc' := 5) (st' := [.int 2]) rfl rfl rfl rfl ?_
  refine ax_s (pc' := 6) (st' := [.int 5, .int 2]) rfl rfl rfl rfl ?_
  refine ax_cmp_gt rfl (fun c3 => False.elim (by revert c3; decide)) (fun c3 => ?_)
  refine ax_s (pc' := 10) (st' := [.int 1]) rfl rfl rfl rfl ?_
  refine ax_s (pc' := 14) (st' := [.int 1]) rfl rfl rfl rfl ?_
  refine ax_rb (b := true) rfl rfl ?_
  show am_ex (d + 1) 134 13 [some (.int 2), some (.int 0), some (.int 2), some (.int 0)] [.int 1] (am_hh X S L) _
  refine ax_if_eq rfl (fun c4 => False.elim (by revert c4; decide)) (fun c4 => ?_)
  refine ax_s (pc' := 17) (st' := [.int 2]) rfl rfl rfl rfl ?_
  refine ax_s (pc' := 18) (st' := [.int 0, .int 2]) rfl rfl rfl rfl ?_
  refine ax_cmp_ne rfl (fun c5 => ?_) (fun c5 => False.elim (by revert c5; decide))
  refine ax_s (pc' := 26) (st' := [.ref 2]) rfl rfl rfl rfl ?_
  refine ax_s (pc' := 27) (st' := [.int 2, .ref 2]) rfl rfl rfl rfl ?_
  refine ax_ald (j := 2) (v := 1) rfl (hh_s2 _ _ _) rfl rfl (by decide) (by decide) rfl ?_
  refine ax_s (pc' := 29) (ls' := [some (.int 2), some (.int 0), some (.int 1), some (.int 0)]) (st' := []) rfl rfl rfl rfl ?_
  refine ax_s (pc' := 32) (ls' := [some (.int 2), some (.int 0), some (.int 1), some (.int 1)]) (st' := []) rfl rfl rfl rfl ?_
  refine ax_s (pc' := 4) (st' := []) rfl rfl rfl rfl ?_
  refine ax_s (pc' := 5) (st' := [.int 1]) rfl rfl rfl rfl ?_
  refine ax_s (pc' := 6) (st' := [.int 5, .int 1]) rfl rfl rfl rfl ?_
  refine ax_cmp_gt rfl (fun c6 => False.elim (by revert c6; decide)) (fun c6 => ?_)
  refine ax_s (pc' := 10) (st' := [.int 1]) rfl rfl rfl rfl ?_
  refine ax_call (vs := [.int 1]) (rr := []) rfl rfl rfl ?_
  refine ax_in (ls := [some (.int 1)]) rfl ?_
  refine ax_s (pc' := 1) (st' := [.int 1]) rfl rfl rfl rfl ?_
  refine ax_if_lt rfl (fun c7 => False.elim (by revert c7; decide)) (fun c7 => ?_)
  refine ax_s (pc' := 5) (st' := [.int 1]) rfl rfl rfl rfl ?_
  refine ax_s (pc' := 6) (st' := [.int 5, .int 1]) rfl rfl rfl rfl ?_
  refine ax_cmp_gt rfl (fun c8 => False.elim (by revert c8; decide)) (fun c8 => ?_)
  refine ax_s (pc' := 10) (st' := [.int 1]) rfl rfl rfl rfl ?_
  refine ax_s (pc' := 14) (st' := [.int 1]) rfl rfl rfl rfl ?_
  refine ax_rb (b := true) rfl rfl ?_
  show am_ex (d + 1) 134 13 [some (.int 2), some (.int 0), some (.int 1), some (.int 1)] [.int 1] (am_hh X S L) _
  refine ax_if_eq rfl (fun c9 => False.elim (by revert c9; decide)) (fun c9 => ?_)
  refine ax_s (pc' := 17) (st' := [.int 1]) rfl rfl rfl rfl ?_
  refine ax_s (pc' := 18) (st' := [.int 0, .int 1]) rfl rfl rfl rfl ?_
  refine ax_cmp_ne rfl (fun c10 => ?_) (fun c10 => False.elim (by revert c10; decide))
  refine ax_s (pc' := 26) (st' := [.ref 2]) rfl rfl rfl rfl ?_
  refine ax_s (pc' := 27) (st' := [.int 1, .ref 2]) rfl rfl rfl rfl ?_
  refine ax_ald (j := 1) (v := 0) rfl (hh_s2 _ _ _) rfl rfl (by decide) (by decide) rfl ?_
  refine ax_s (pc' := 29) (ls' := [some (.int 2), some (.int 0), some (.int 0), some (.int 1)]) (st' := []) rfl rfl rfl rfl ?_
  refine ax_s (pc' := 32) (ls' := [some (.int 2), some (.int 0), some (.int 0), some (.int 2)]) (st' := []) rfl rfl rfl rfl ?_
  refine ax_s (pc' := 4) (st' := []) rfl rfl rfl rfl ?_
  refine ax_s (pc' := 5) (st' := [.int 2]) rfl rfl rfl rfl ?_
  refine ax_s (pc' := 6) (st' := [.int 5, .int 2]) rfl rfl rfl rfl ?_
  refine ax_cmp_gt rfl (fun c11 => False.elim (by revert c11; decide)) (fun c11 => ?_)
  refine ax_s (pc' := 10) (st' := [.int 0]) rfl rfl rfl rfl ?_
  refine ax_call (vs := [.int 0]) (rr := []) rfl rfl rfl ?_
  refine ax_in (ls := [some (.int 0)]) rfl ?_
  refine ax_s (pc' := 1) (st' := [.int 0]) rfl rfl rfl rfl ?_
  refine ax_if_lt rfl (fun c12 => False.elim (by revert c12; decide)) (fun c12 => ?_)
  refine ax_s (pc' := 5) (st' := [.int 0]) rfl rfl rfl rfl ?_
  refine ax_s (pc' := 6) (st' := [.int 5, .int 0]) rfl rfl rfl rfl ?_
  refine ax_cmp_gt rfl (fun c13 => False.elim (by revert c13; decide)) (fun c13 => ?_)
  refine ax_s (pc' := 10) (st' := [.int 1]) rfl rfl rfl rfl ?_
  refine ax_s (pc' := 14) (st' := [.int 1]) rfl rfl rfl rfl ?_
  refine ax_rb (b := true) rfl rfl ?_
  show am_ex (d + 1) 134 13 [some (.int 2), some (.int 0), some (.int 0), some (.int 2)] [.int 1] (am_hh X S L) _
  refine ax_if_eq rfl (fun c14 => False.elim (by revert c14; decide)) (fun c14 => ?_)
  refine ax_s (pc' := 17) (st' := [.int 0]) rfl rfl rfl rfl ?_
  refine ax_s (pc' := 18) (st' := [.int 0, .int 0]) rfl rfl rfl rfl ?_
  refine ax_cmp_ne rfl (fun c15 => False.elim (by revert c15; decide)) (fun c15 => ?_)
  refine ax_s (pc' := 22) (st' := [.int 1]) rfl rfl rfl rfl ?_
  refine ax_rb (b := true) rfl rfl ?_
  exact k1
theorem kt_isSuch_2_1 {d : Nat} {X : Nat × (Nat → Int32)} {S : Nat → Nat → Int32} {L : Nat → Int64} {Q : Option Value → am_H → Prop}  (k1 : Q (some (.int 1)) (am_hh X S L)) : am_mt (d + 1) 134 [.int 2, .int 1] (am_hh X S L) Q := by
  refine ax_in (ls := [some (.int 2), some (.int 1), none, none]) rfl ?_
  refine ax_s (pc' := 1) (st' := [.int 2]) rfl rfl rfl rfl ?_
  refine ax_s (pc' := 2) (ls' := [some (.int 2), some (.int 1), some (.int 2), none]) (st' := []) rfl rfl rfl rfl ?_
  refine ax_s (pc' := 3) (st' := [.int 0]) rfl rfl rfl rfl ?_
  refine ax_s (pc' := 4) (ls' := [some (.int 2), some (.int 1), some (.int 2), some (.int 0)]) (st' := []) rfl rfl rfl rfl ?_
  refine ax_s (pc' := 5) (st' := [.int 0]) rfl rfl rfl rfl ?_
  refine ax_s (pc' := 6) (st' := [.int 5, .int 0]) rfl rfl rfl rfl ?_
  refine ax_cmp_gt rfl (fun c1 => False.elim (by revert c1; decide)) (fun c1 => ?_)
  refine ax_s (pc' := 10) (st' := [.int 2]) rfl rfl rfl rfl ?_
  refine ax_call (vs := [.int 2]) (rr := []) rfl rfl rfl ?_
  refine ax_in (ls := [some (.int 2)]) rfl ?_
  refine ax_s (pc' := 1) (st' := [.int 2]) rfl rfl rfl rfl ?_
  refine ax_if_lt rfl (fun c2 => False.elim (by revert c2; decide)) (fun c2 => ?_)
  refine ax_s (pc' := 5) (st' := [.int 2]) rfl rfl rfl rfl ?_
  refine ax_s (pc' := 6) (st' := [.int 5, .int 2]) rfl rfl rfl rfl ?_
  refine ax_cmp_gt rfl (fun c3 => False.elim (by revert c3; decide)) (fun c3 => ?_)
  refine ax_s (pc' := 10) (st' := [.int 1]) rfl rfl rfl rfl ?_
  refine ax_s (pc' := 14) (st' := [.int 1]) rfl rfl rfl rfl ?_
  refine ax_rb (b := true) rfl rfl ?_
  show am_ex (d + 1) 134 13 [some (.int 2), some (.int 1), some (.int 2), some (.int 0)] [.int 1] (am_hh X S L) _
  refine ax_if_eq rfl (fun c4 => False.elim (by revert c4; decide)) (fun c4 => ?_)
  refine ax_s (pc' := 17) (st' := [.int 2]) rfl rfl rfl rfl ?_
  refine ax_s (pc' := 18) (st' := [.int 1, .int 2]) rfl rfl rfl rfl ?_
  refine ax_cmp_ne rfl (fun c5 => ?_) (fun c5 => False.elim (by revert c5; decide))
  refine ax_s (pc' := 26) (st' := [.ref 2]) rfl rfl rfl rfl ?_
  refine ax_s (pc' := 27) (st' := [.int 2, .ref 2]) rfl rfl rfl rfl ?_
  refine ax_ald (j := 2) (v := 1) rfl (hh_s2 _ _ _) rfl rfl (by decide) (by decide) rfl ?_
  refine ax_s (pc' := 29) (ls' := [some (.int 2), some (.int 1), some (.int 1), some (.int 0)]) (st' := []) rfl rfl rfl rfl ?_
  refine ax_s (pc' := 32) (ls' := [some (.int 2), some (.int 1), some (.int 1), some (.int 1)]) (st' := []) rfl rfl rfl rfl ?_
  refine ax_s (pc' := 4) (st' := []) rfl rfl rfl rfl ?_
  refine ax_s (pc' := 5) (st' := [.int 1]) rfl rfl rfl rfl ?_
  refine ax_s (pc' := 6) (st' := [.int 5, .int 1]) rfl rfl rfl rfl ?_
  refine ax_cmp_gt rfl (fun c6 => False.elim (by revert c6; decide)) (fun c6 => ?_)
  refine ax_s (pc' := 10) (st' := [.int 1]) rfl rfl rfl rfl ?_
  refine ax_call (vs := [.int 1]) (rr := []) rfl rfl rfl ?_
  refine ax_in (ls := [some (.int 1)]) rfl ?_
  refine ax_s (pc' := 1) (st' := [.int 1]) rfl rfl rfl rfl ?_
  refine ax_if_lt rfl (fun c7 => False.elim (by revert c7; decide)) (fun c7 => ?_)
  refine ax_s (pc' := 5) (st' := [.int 1]) rfl rfl rfl rfl ?_
  refine ax_s (pc' := 6) (st' := [.int 5, .int 1]) rfl rfl rfl rfl ?_
  refine ax_cmp_gt rfl (fun c8 => False.elim (by revert c8; decide)) (fun c8 => ?_)
  refine ax_s (pc' := 10) (st' := [.int 1]) rfl rfl rfl rfl ?_
  refine ax_s (pc' := 14) (st' := [.int 1]) rfl rfl rfl rfl ?_
  refine ax_rb (b := true) rfl rfl ?_
  show am_ex (d + 1) 134 13 [some (.int 2), some (.int 1), some (.int 1), some (.int 1)] [.int 1] (am_hh X S L) _
  refine ax_if_eq rfl (fun c9 => False.elim (by revert c9; decide)) (fun c9 => ?_)
  refine ax_s (pc' := 17) (st' := [.int 1]) rfl rfl rfl rfl ?_
  refine ax_s (pc' := 18) (st' := [.int 1, .int 1]) rfl rfl rfl rfl ?_
  refine ax_cmp_ne rfl (fun c10 => False.elim (by revert c10; decide)) (fun c10 => ?_)
  refine ax_s (pc' := 22) (st' := [.int 1]) rfl rfl rfl rfl ?_
  refine ax_rb (b := true) rfl rfl ?_
  exact k1
theorem kt_isSuch_2_2 {d : Nat} {X : Nat × (Nat → Int32)} {S : Nat → Nat → Int32} {L : Nat → Int64} {Q : Option Value → am_H → Prop}  (k1 : Q (some (.int 1)) (am_hh X S L)) : am_mt (d + 1) 134 [.int 2, .int 2] (am_hh X S L) Q := by
  refine ax_in (ls := [some (.int 2), some (.int 2), none, none]) rfl ?_
  refine ax_s (pc' := 1) (st' := [.int 2]) rfl rfl rfl rfl ?_
  refine ax_s (pc' := 2) (ls' := [some (.int 2), some (.int 2), some (.int 2), none]) (st' := []) rfl rfl rfl rfl ?_
  refine ax_s (pc' := 3) (st' := [.int 0]) rfl rfl rfl rfl ?_
  refine ax_s (pc' := 4) (ls' := [some (.int 2), some (.int 2), some (.int 2), some (.int 0)]) (st' := []) rfl rfl rfl rfl ?_
  refine ax_s (pc' := 5) (st' := [.int 0]) rfl rfl rfl rfl ?_
  refine ax_s (pc' := 6) (st' := [.int 5, .int 0]) rfl rfl rfl rfl ?_
  refine ax_cmp_gt rfl (fun c1 => False.elim (by revert c1; decide)) (fun c1 => ?_)
  refine ax_s (pc' := 10) (st' := [.int 2]) rfl rfl rfl rfl ?_
  refine ax_call (vs := [.int 2]) (rr := []) rfl rfl rfl ?_
  refine ax_in (ls := [some (.int 2)]) rfl ?_
  refine ax_s (pc' := 1) (st' := [.int 2]) rfl rfl rfl rfl ?_
  refine ax_if_lt rfl (fun c2 => False.elim (by revert c2; decide)) (fun c2 => ?_)
  refine ax_s (pc' := 5) (st' := [.int 2]) rfl rfl rfl rfl ?_
  refine ax_s (pc' := 6) (st' := [.int 5, .int 2]) rfl rfl rfl rfl ?_
  refine ax_cmp_gt rfl (fun c3 => False.elim (by revert c3; decide)) (fun c3 => ?_)
  refine ax_s (pc' := 10) (st' := [.int 1]) rfl rfl rfl rfl ?_
  refine ax_s (pc' := 14) (st' := [.int 1]) rfl rfl rfl rfl ?_
  refine ax_rb (b := true) rfl rfl ?_
  show am_ex (d + 1) 134 13 [some (.int 2), some (.int 2), some (.int 2), some (.int 0)] [.int 1] (am_hh X S L) _
  refine ax_if_eq rfl (fun c4 => False.elim (by revert c4; decide)) (fun c4 => ?_)
  refine ax_s (pc' := 17) (st' := [.int 2]) rfl rfl rfl rfl ?_
  refine ax_s (pc' := 18) (st' := [.int 2, .int 2]) rfl rfl rfl rfl ?_
  refine ax_cmp_ne rfl (fun c5 => False.elim (by revert c5; decide)) (fun c5 => ?_)
  refine ax_s (pc' := 22) (st' := [.int 1]) rfl rfl rfl rfl ?_
  refine ax_rb (b := true) rfl rfl ?_
  exact k1
theorem kt_isSuch_2_3 {d : Nat} {X : Nat × (Nat → Int32)} {S : Nat → Nat → Int32} {L : Nat → Int64} {Q : Option Value → am_H → Prop}  (k1 : Q (some (.int 0)) (am_hh X S L)) : am_mt (d + 1) 134 [.int 2, .int 3] (am_hh X S L) Q := by
  refine ax_in (ls := [some (.int 2), some (.int 3), none, none]) rfl ?_
  refine ax_s (pc' := 1) (st' := [.int 2]) rfl rfl rfl rfl ?_
  refine ax_s (pc' := 2) (ls' := [some (.int 2), some (.int 3), some (.int 2), none]) (st' := []) rfl rfl rfl rfl ?_
  refine ax_s (pc' := 3) (st' := [.int 0]) rfl rfl rfl rfl ?_
  refine ax_s (pc' := 4) (ls' := [some (.int 2), some (.int 3), some (.int 2), some (.int 0)]) (st' := []) rfl rfl rfl rfl ?_
  refine ax_s (pc' := 5) (st' := [.int 0]) rfl rfl rfl rfl ?_
  refine ax_s (pc' := 6) (st' := [.int 5, .int 0]) rfl rfl rfl rfl ?_
  refine ax_cmp_gt rfl (fun c1 => False.elim (by revert c1; decide)) (fun c1 => ?_)
  refine ax_s (pc' := 10) (st' := [.int 2]) rfl rfl rfl rfl ?_
  refine ax_call (vs := [.int 2]) (rr := []) rfl rfl rfl ?_
  refine ax_in (ls := [some (.int 2)]) rfl ?_
  refine ax_s (pc' := 1) (st' := [.int 2]) rfl rfl rfl rfl ?_
  refine ax_if_lt rfl (fun c2 => False.elim (by revert c2; decide)) (fun c2 => ?_)
  refine ax_s (pc' := 5) (st' := [.int 2]) rfl rfl rfl rfl ?_
  refine ax_s (pc' := 6) (st' := [.int 5, .int 2]) rfl rfl rfl rfl ?_
  refine ax_cmp_gt rfl (fun c3 => False.elim (by revert c3; decide)) (fun c3 => ?_)
  refine ax_s (pc' := 10) (st' := [.int 1]) rfl rfl rfl rfl ?_
  refine ax_s (pc' := 14) (st' := [.int 1]) rfl rfl rfl rfl ?_
  refine ax_rb (b := true) rfl rfl ?_
  show am_ex (d + 1) 134 13 [some (.int 2), some (.int 3), some (.int 2), some (.int 0)] [.int 1] (am_hh X S L) _
  refine ax_if_eq rfl (fun c4 => False.elim (by revert c4; decide)) (fun c4 => ?_)
  refine ax_s (pc' := 17) (st' := [.int 2]) rfl rfl rfl rfl ?_
  refine ax_s (pc' := 18) (st' := [.int 3, .int 2]) rfl rfl rfl rfl ?_
  refine ax_cmp_ne rfl (fun c5 => ?_) (fun c5 => False.elim (by revert c5; decide))
  refine ax_s (pc' := 26) (st' := [.ref 2]) rfl rfl rfl rfl ?_
  refine ax_s (pc' := 27) (st' := [.int 2, .ref 2]) rfl rfl rfl rfl ?_
  refine ax_ald (j := 2) (v := 1) rfl (hh_s2 _ _ _) rfl rfl (by decide) (by decide) rfl ?_
  refine ax_s (pc' := 29) (ls' := [some (.int 2), some (.int 3), some (.int 1), some (.int 0)]) (st' := []) rfl rfl rfl rfl ?_
  refine ax_s (pc' := 32) (ls' := [some (.int 2), some (.int 3), some (.int 1), some (.int 1)]) (st' := []) rfl rfl rfl rfl ?_
  refine ax_s (pc' := 4) (st' := []) rfl rfl rfl rfl ?_
  refine ax_s (pc' := 5) (st' := [.int 1]) rfl rfl rfl rfl ?_
  refine ax_s (pc' := 6) (st' := [.int 5, .int 1]) rfl rfl rfl rfl ?_
  refine ax_cmp_gt rfl (fun c6 => False.elim (by revert c6; decide)) (fun c6 => ?_)
  refine ax_s (pc' := 10) (st' := [.int 1]) rfl rfl rfl rfl ?_
  refine ax_call (vs := [.int 1]) (rr := []) rfl rfl rfl ?_
  refine ax_in (ls := [some (.int 1)]) rfl ?_
  refine ax_s (pc' := 1) (st' := [.int 1]) rfl rfl rfl rfl ?_
  refine ax_if_lt rfl (fun c7 => False.elim (by revert c7; decide)) (fun c7 => ?_)
  refine ax_s (pc' := 5) (st' := [.int 1]) rfl rfl rfl rfl ?_
  refine ax_s (pc' := 6) (st' := [.int 5, .int 1]) rfl rfl rfl rfl ?_
  refine ax_cmp_gt rfl (fun c8 => False.elim (by revert c8; decide)) (fun c8 => ?_)
  refine ax_s (pc' := 10) (st' := [.int 1]) rfl rfl rfl rfl ?_
  refine ax_s (pc' := 14) (st' := [.int 1]) rfl rfl rfl rfl ?_
  refine ax_rb (b := true) rfl rfl ?_
  show am_ex (d + 1) 134 13 [some (.int 2), some (.int 3), some (.int 1), some (.int 1)] [.int 1] (am_hh X S L) _
  refine ax_if_eq rfl (fun c9 => False.elim (by revert c9; decide)) (fun c9 => ?_)
  refine ax_s (pc' := 17) (st' := [.int 1]) rfl rfl rfl rfl ?_
  refine ax_s (pc' := 18) (st' := [.int 3, .int 1]) rfl rfl rfl rfl ?_
  refine ax_cmp_ne rfl (fun c10 => ?_) (fun c10 => False.elim (by revert c10; decide))
  refine ax_s (pc' := 26) (st' := [.ref 2]) rfl rfl rfl rfl ?_
  refine ax_s (pc' := 27) (st' := [.int 1, .ref 2]) rfl rfl rfl rfl ?_
  refine ax_ald (j := 1) (v := 0) rfl (hh_s2 _ _ _) rfl rfl (by decide) (by decide) rfl ?_
  refine ax_s (pc' := 29) (ls' := [some (.int 2), some (.int 3), some (.int 0), some (.int 1)]) (st' := []) rfl rfl rfl rfl ?_
  refine ax_s (pc' := 32) (ls' := [some (.int 2), some (.int 3), some (.int 0), some (.int 2)]) (st' := []) rfl rfl rfl rfl ?_
  refine ax_s (pc' := 4) (st' := []) rfl rfl rfl rfl ?_
  refine ax_s (pc' := 5) (st' := [.int 2]) rfl rfl rfl rfl ?_
  refine ax_s (pc' := 6) (st' := [.int 5, .int 2]) rfl rfl rfl rfl ?_
  refine ax_cmp_gt rfl (fun c11 => False.elim (by revert c11; decide)) (fun c11 => ?_)
  refine ax_s (pc' := 10) (st' := [.int 0]) rfl rfl rfl rfl ?_
  refine ax_call (vs := [.int 0]) (rr := []) rfl rfl rfl ?_
  refine ax_in (ls := [some (.int 0)]) rfl ?_
  refine ax_s (pc' := 1) (st' := [.int 0]) rfl rfl rfl rfl ?_
  refine ax_if_lt rfl (fun c12 => False.elim (by revert c12; decide)) (fun c12 => ?_)
  refine ax_s (pc' := 5) (st' := [.int 0]) rfl rfl rfl rfl ?_
  refine ax_s (pc' := 6) (st' := [.int 5, .int 0]) rfl rfl rfl rfl ?_
  refine ax_cmp_gt rfl (fun c13 => False.elim (by revert c13; decide)) (fun c13 => ?_)
  refine ax_s (pc' := 10) (st' := [.int 1]) rfl rfl rfl rfl ?_
  refine ax_s (pc' := 14) (st' := [.int 1]) rfl rfl rfl rfl ?_
  refine ax_rb (b := true) rfl rfl ?_
  show am_ex (d + 1) 134 13 [some (.int 2), some (.int 3), some (.int 0), some (.int 2)] [.int 1] (am_hh X S L) _
  refine ax_if_eq rfl (fun c14 => False.elim (by revert c14; decide)) (fun c14 => ?_)
  refine ax_s (pc' := 17) (st' := [.int 0]) rfl rfl rfl rfl ?_
  refine ax_s (pc' := 18) (st' := [.int 3, .int 0]) rfl rfl rfl rfl ?_
  refine ax_cmp_ne rfl (fun c15 => ?_) (fun c15 => False.elim (by revert c15; decide))
  refine ax_s (pc' := 26) (st' := [.ref 2]) rfl rfl rfl rfl ?_
  refine ax_s (pc' := 27) (st' := [.int 0, .ref 2]) rfl rfl rfl rfl ?_
  refine ax_ald (j := 0) (v := (-1000000)) rfl (hh_s2 _ _ _) rfl rfl (by decide) (by decide) rfl ?_
  refine ax_s (pc' := 29) (ls' := [some (.int 2), some (.int 3), some (.int (-1000000)), some (.int 2)]) (st' := []) rfl rfl rfl rfl ?_
  refine ax_s (pc' := 32) (ls' := [some (.int 2), some (.int 3), some (.int (-1000000)), some (.int 3)]) (st' := []) rfl rfl rfl rfl ?_
  refine ax_s (pc' := 4) (st' := []) rfl rfl rfl rfl ?_
  refine ax_s (pc' := 5) (st' := [.int 3]) rfl rfl rfl rfl ?_
  refine ax_s (pc' := 6) (st' := [.int 5, .int 3]) rfl rfl rfl rfl ?_
  refine ax_cmp_gt rfl (fun c16 => False.elim (by revert c16; decide)) (fun c16 => ?_)
  refine ax_s (pc' := 10) (st' := [.int (-1000000)]) rfl rfl rfl rfl ?_
  refine ax_call (vs := [.int (-1000000)]) (rr := []) rfl rfl rfl ?_
  refine ax_in (ls := [some (.int (-1000000))]) rfl ?_
  refine ax_s (pc' := 1) (st' := [.int (-1000000)]) rfl rfl rfl rfl ?_
  refine ax_if_lt rfl (fun c17 => ?_) (fun c17 => False.elim (by revert c17; decide))
  refine ax_s (pc' := 14) (st' := [.int 0]) rfl rfl rfl rfl ?_
  refine ax_rb (b := false) rfl rfl ?_
  show am_ex (d + 1) 134 13 [some (.int 2), some (.int 3), some (.int (-1000000)), some (.int 3)] [.int 0] (am_hh X S L) _
  refine ax_if_eq rfl (fun c18 => ?_) (fun c18 => False.elim (by revert c18; decide))
  refine ax_s (pc' := 36) (st' := [.int 0]) rfl rfl rfl rfl ?_
  refine ax_rb (b := false) rfl rfl ?_
  exact k1
theorem kt_isSuch_2_4 {d : Nat} {X : Nat × (Nat → Int32)} {S : Nat → Nat → Int32} {L : Nat → Int64} {Q : Option Value → am_H → Prop}  (k1 : Q (some (.int 0)) (am_hh X S L)) : am_mt (d + 1) 134 [.int 2, .int 4] (am_hh X S L) Q := by
  refine ax_in (ls := [some (.int 2), some (.int 4), none, none]) rfl ?_
  refine ax_s (pc' := 1) (st' := [.int 2]) rfl rfl rfl rfl ?_
  refine ax_s (pc' := 2) (ls' := [some (.int 2), some (.int 4), some (.int 2), none]) (st' := []) rfl rfl rfl rfl ?_
  refine ax_s (pc' := 3) (st' := [.int 0]) rfl rfl rfl rfl ?_
  refine ax_s (pc' := 4) (ls' := [some (.int 2), some (.int 4), some (.int 2), some (.int 0)]) (st' := []) rfl rfl rfl rfl ?_
  refine ax_s (pc' := 5) (st' := [.int 0]) rfl rfl rfl rfl ?_
  refine ax_s (pc' := 6) (st' := [.int 5, .int 0]) rfl rfl rfl rfl ?_
  refine ax_cmp_gt rfl (fun c1 => False.elim (by revert c1; decide)) (fun c1 => ?_)
  refine ax_s (pc' := 10) (st' := [.int 2]) rfl rfl rfl rfl ?_
  refine ax_call (vs := [.int 2]) (rr := []) rfl rfl rfl ?_
  refine ax_in (ls := [some (.int 2)]) rfl ?_
  refine ax_s (pc' := 1) (st' := [.int 2]) rfl rfl rfl rfl ?_
  refine ax_if_lt rfl (fun c2 => False.elim (by revert c2; decide)) (fun c2 => ?_)
  refine ax_s (pc' := 5) (st' := [.int 2]) rfl rfl rfl rfl ?_
  refine ax_s (pc' := 6) (st' := [.int 5, .int 2]) rfl rfl rfl rfl ?_
  refine ax_cmp_gt rfl (fun c3 => False.elim (by revert c3; decide)) (fun c3 => ?_)
  refine ax_s (pc' := 10) (st' := [.int 1]) rfl rfl rfl rfl ?_
  refine ax_s (pc' := 14) (st' := [.int 1]) rfl rfl rfl rfl ?_
  refine ax_rb (b := true) rfl rfl ?_
  show am_ex (d + 1) 134 13 [some (.int 2), some (.int 4), some (.int 2), some (.int 0)] [.int 1] (am_hh X S L) _
  refine ax_if_eq rfl (fun c4 => False.elim (by revert c4; decide)) (fun c4 => ?_)
  refine ax_s (pc' := 17) (st' := [.int 2]) rfl rfl rfl rfl ?_
  refine ax_s (pc' := 18) (st' := [.int 4, .int 2]) rfl rfl rfl rfl ?_
  refine ax_cmp_ne rfl (fun c5 => ?_) (fun c5 => False.elim (by revert c5; decide))
  refine ax_s (pc' := 26) (st' := [.ref 2]) rfl rfl rfl rfl ?_
  refine ax_s (pc' := 27) (st' := [.int 2, .ref 2]) rfl rfl rfl rfl ?_
  refine ax_ald (j := 2) (v := 1) rfl (hh_s2 _ _ _) rfl rfl (by decide) (by decide) rfl ?_
  refine ax_s (pc' := 29) (ls' := [some (.int 2), some (.int 4), some (.int 1), some (.int 0)]) (st' := []) rfl rfl rfl rfl ?_
  refine ax_s (pc' := 32) (ls' := [some (.int 2), some (.int 4), some (.int 1), some (.int 1)]) (st' := []) rfl rfl rfl rfl ?_
  refine ax_s (pc' := 4) (st' := []) rfl rfl rfl rfl ?_
  refine ax_s (pc' := 5) (st' := [.int 1]) rfl rfl rfl rfl ?_
  refine ax_s (pc' := 6) (st' := [.int 5, .int 1]) rfl rfl rfl rfl ?_
  refine ax_cmp_gt rfl (fun c6 => False.elim (by revert c6; decide)) (fun c6 => ?_)
  refine ax_s (pc' := 10) (st' := [.int 1]) rfl rfl rfl rfl ?_
  refine ax_call (vs := [.int 1]) (rr := []) rfl rfl rfl ?_
  refine ax_in (ls := [some (.int 1)]) rfl ?_
  refine ax_s (pc' := 1) (st' := [.int 1]) rfl rfl rfl rfl ?_
  refine ax_if_lt rfl (fun c7 => False.elim (by revert c7; decide)) (fun c7 => ?_)
  refine ax_s (pc' := 5) (st' := [.int 1]) rfl rfl rfl rfl ?_
  refine ax_s (pc' := 6) (st' := [.int 5, .int 1]) rfl rfl rfl rfl ?_
  refine ax_cmp_gt rfl (fun c8 => False.elim (by revert c8; decide)) (fun c8 => ?_)
  refine ax_s (pc' := 10) (st' := [.int 1]) rfl rfl rfl rfl ?_
  refine ax_s (pc' := 14) (st' := [.int 1]) rfl rfl rfl rfl ?_
  refine ax_rb (b := true) rfl rfl ?_
  show am_ex (d + 1) 134 13 [some (.int 2), some (.int 4), some (.int 1), some (.int 1)] [.int 1] (am_hh X S L) _
  refine ax_if_eq rfl (fun c9 => False.elim (by revert c9; decide)) (fun c9 => ?_)
  refine ax_s (pc' := 17) (st' := [.int 1]) rfl rfl rfl rfl ?_
  refine ax_s (pc' := 18) (st' := [.int 4, .int 1]) rfl rfl rfl rfl ?_
  refine ax_cmp_ne rfl (fun c10 => ?_) (fun c10 => False.elim (by revert c10; decide))
  refine ax_s (pc' := 26) (st' := [.ref 2]) rfl rfl rfl rfl ?_
  refine ax_s (pc' := 27) (st' := [.int 1, .ref 2]) rfl rfl rfl rfl ?_
  refine ax_ald (j := 1) (v := 0) rfl (hh_s2 _ _ _) rfl rfl (by decide) (by decide) rfl ?_
  refine ax_s (pc' := 29) (ls' := [some (.int 2), some (.int 4), some (.int 0), some (.int 1)]) (st' := []) rfl rfl rfl rfl ?_
  refine ax_s (pc' := 32) (ls' := [some (.int 2), some (.int 4), some (.int 0), some (.int 2)]) (st' := []) rfl rfl rfl rfl ?_
  refine ax_s (pc' := 4) (st' := []) rfl rfl rfl rfl ?_
  refine ax_s (pc' := 5) (st' := [.int 2]) rfl rfl rfl rfl ?_
  refine ax_s (pc' := 6) (st' := [.int 5, .int 2]) rfl rfl rfl rfl ?_
  refine ax_cmp_gt rfl (fun c11 => False.elim (by revert c11; decide)) (fun c11 => ?_)
  refine ax_s (pc' := 10) (st' := [.int 0]) rfl rfl rfl rfl ?_
  refine ax_call (vs := [.int 0]) (rr := []) rfl rfl rfl ?_
  refine ax_in (ls := [some (.int 0)]) rfl ?_
  refine ax_s (pc' := 1) (st' := [.int 0]) rfl rfl rfl rfl ?_
  refine ax_if_lt rfl (fun c12 => False.elim (by revert c12; decide)) (fun c12 => ?_)
  refine ax_s (pc' := 5) (st' := [.int 0]) rfl rfl rfl rfl ?_
  refine ax_s (pc' := 6) (st' := [.int 5, .int 0]) rfl rfl rfl rfl ?_
  refine ax_cmp_gt rfl (fun c13 => False.elim (by revert c13; decide)) (fun c13 => ?_)
  refine ax_s (pc' := 10) (st' := [.int 1]) rfl rfl rfl rfl ?_
  refine ax_s (pc' := 14) (st' := [.int 1]) rfl rfl rfl rfl ?_
  refine ax_rb (b := true) rfl rfl ?_
  show am_ex (d + 1) 134 13 [some (.int 2), some (.int 4), some (.int 0), some (.int 2)] [.int 1] (am_hh X S L) _
  refine ax_if_eq rfl (fun c14 => False.elim (by revert c14; decide)) (fun c14 => ?_)
  refine ax_s (pc' := 17) (st' := [.int 0]) rfl rfl rfl rfl ?_
  refine ax_s (pc' := 18) (st' := [.int 4, .int 0]) rfl rfl rfl rfl ?_
  refine ax_cmp_ne rfl (fun c15 => ?_) (fun c15 => False.elim (by revert c15; decide))
  refine ax_s (pc' := 26) (st' := [.ref 2]) rfl rfl rfl rfl ?_
  refine ax_s (pc' := 27) (st' := [.int 0, .ref 2]) rfl rfl rfl rfl ?_
  refine ax_ald (j := 0) (v := (-1000000)) rfl (hh_s2 _ _ _) rfl rfl (by decide) (by decide) rfl ?_
  refine ax_s (pc' := 29) (ls' := [some (.int 2), some (.int 4), some (.int (-1000000)), some (.int 2)]) (st' := []) rfl rfl rfl rfl ?_
  refine ax_s (pc' := 32) (ls' := [some (.int 2), some (.int 4), some (.int (-1000000)), some (.int 3)]) (st' := []) rfl rfl rfl rfl ?_
  refine ax_s (pc' := 4) (st' := []) rfl rfl rfl rfl ?_
  refine ax_s (pc' := 5) (st' := [.int 3]) rfl rfl rfl rfl ?_
  refine ax_s (pc' := 6) (st' := [.int 5, .int 3]) rfl rfl rfl rfl ?_
  refine ax_cmp_gt rfl (fun c16 => False.elim (by revert c16; decide)) (fun c16 => ?_)
  refine ax_s (pc' := 10) (st' := [.int (-1000000)]) rfl rfl rfl rfl ?_
  refine ax_call (vs := [.int (-1000000)]) (rr := []) rfl rfl rfl ?_
  refine ax_in (ls := [some (.int (-1000000))]) rfl ?_
  refine ax_s (pc' := 1) (st' := [.int (-1000000)]) rfl rfl rfl rfl ?_
  refine ax_if_lt rfl (fun c17 => ?_) (fun c17 => False.elim (by revert c17; decide))
  refine ax_s (pc' := 14) (st' := [.int 0]) rfl rfl rfl rfl ?_
  refine ax_rb (b := false) rfl rfl ?_
  show am_ex (d + 1) 134 13 [some (.int 2), some (.int 4), some (.int (-1000000)), some (.int 3)] [.int 0] (am_hh X S L) _
  refine ax_if_eq rfl (fun c18 => ?_) (fun c18 => False.elim (by revert c18; decide))
  refine ax_s (pc' := 36) (st' := [.int 0]) rfl rfl rfl rfl ?_
  refine ax_rb (b := false) rfl rfl ?_
  exact k1
theorem kt_isSuch_2_5 {d : Nat} {X : Nat × (Nat → Int32)} {S : Nat → Nat → Int32} {L : Nat → Int64} {Q : Option Value → am_H → Prop}  (k1 : Q (some (.int 0)) (am_hh X S L)) : am_mt (d + 1) 134 [.int 2, .int 5] (am_hh X S L) Q := by
  refine ax_in (ls := [some (.int 2), some (.int 5), none, none]) rfl ?_
  refine ax_s (pc' := 1) (st' := [.int 2]) rfl rfl rfl rfl ?_
  refine ax_s (pc' := 2) (ls' := [some (.int 2), some (.int 5), some (.int 2), none]) (st' := []) rfl rfl rfl rfl ?_
  refine ax_s (pc' := 3) (st' := [.int 0]) rfl rfl rfl rfl ?_
  refine ax_s (pc' := 4) (ls' := [some (.int 2), some (.int 5), some (.int 2), some (.int 0)]) (st' := []) rfl rfl rfl rfl ?_
  refine ax_s (pc' := 5) (st' := [.int 0]) rfl rfl rfl rfl ?_
  refine ax_s (pc' := 6) (st' := [.int 5, .int 0]) rfl rfl rfl rfl ?_
  refine ax_cmp_gt rfl (fun c1 => False.elim (by revert c1; decide)) (fun c1 => ?_)
  refine ax_s (pc' := 10) (st' := [.int 2]) rfl rfl rfl rfl ?_
  refine ax_call (vs := [.int 2]) (rr := []) rfl rfl rfl ?_
  refine ax_in (ls := [some (.int 2)]) rfl ?_
  refine ax_s (pc' := 1) (st' := [.int 2]) rfl rfl rfl rfl ?_
  refine ax_if_lt rfl (fun c2 => False.elim (by revert c2; decide)) (fun c2 => ?_)
  refine ax_s (pc' := 5) (st' := [.int 2]) rfl rfl rfl rfl ?_
  refine ax_s (pc' := 6) (st' := [.int 5, .int 2]) rfl rfl rfl rfl ?_
  refine ax_cmp_gt rfl (fun c3 => False.elim (by revert c3; decide)) (fun c3 => ?_)
  refine ax_s (pc' := 10) (st' := [.int 1]) rfl rfl rfl rfl ?_
  refine ax_s (pc' := 14) (st' := [.int 1]) rfl rfl rfl rfl ?_
  refine ax_rb (b := true) rfl rfl ?_
  show am_ex (d + 1) 134 13 [some (.int 2), some (.int 5), some (.int 2), some (.int 0)] [.int 1] (am_hh X S L) _
  refine ax_if_eq rfl (fun c4 => False.elim (by revert c4; decide)) (fun c4 => ?_)
  refine ax_s (pc' := 17) (st' := [.int 2]) rfl rfl rfl rfl ?_
  refine ax_s (pc' := 18) (st' := [.int 5, .int 2]) rfl rfl rfl rfl ?_
  refine ax_cmp_ne rfl (fun c5 => ?_) (fun c5 => False.elim (by revert c5; decide))
  refine ax_s (pc' := 26) (st' := [.ref 2]) rfl rfl rfl rfl ?_
  refine ax_s (pc' := 27) (st' := [.int 2, .ref 2]) rfl rfl rfl rfl ?_
  refine ax_ald (j := 2) (v := 1) rfl (hh_s2 _ _ _) rfl rfl (by decide) (by decide) rfl ?_
  refine ax_s (pc' := 29) (ls' := [some (.int 2), some (.int 5), some (.int 1), some (.int 0)]) (st' := []) rfl rfl rfl rfl ?_
  refine ax_s (pc' := 32) (ls' := [some (.int 2), some (.int 5), some (.int 1), some (.int 1)]) (st' := []) rfl rfl rfl rfl ?_
  refine ax_s (pc' := 4) (st' := []) rfl rfl rfl rfl ?_
  refine ax_s (pc' := 5) (st' := [.int 1]) rfl rfl rfl rfl ?_
  refine ax_s (pc' := 6) (st' := [.int 5, .int 1]) rfl rfl rfl rfl ?_
  refine ax_cmp_gt rfl (fun c6 => False.elim (by revert c6; decide)) (fun c6 => ?_)
  refine ax_s (pc' := 10) (st' := [.int 1]) rfl rfl rfl rfl ?_
  refine ax_call (vs := [.int 1]) (rr := []) rfl rfl rfl ?_
  refine ax_in (ls := [some (.int 1)]) rfl ?_
  refine ax_s (pc' := 1) (st' := [.int 1]) rfl rfl rfl rfl ?_
  refine ax_if_lt rfl (fun c7 => False.elim (by revert c7; decide)) (fun c7 => ?_)
  refine ax_s (pc' := 5) (st' := [.int 1]) rfl rfl rfl rfl ?_
  refine ax_s (pc' := 6) (st' := [.int 5, .int 1]) rfl rfl rfl rfl ?_
  refine ax_cmp_gt rfl (fun c8 => False.elim (by revert c8; decide)) (fun c8 => ?_)
  refine ax_s (pc' := 10) (st' := [.int 1]) rfl rfl rfl rfl ?_
  refine ax_s (pc' := 14) (st' := [.int 1]) rfl rfl rfl rfl ?_
  refine ax_rb (b := true) rfl rfl ?_
  show am_ex (d + 1) 134 13 [some (.int 2), some (.int 5), some (.int 1), some (.int 1)] [.int 1] (am_hh X S L) _
  refine ax_if_eq rfl (fun c9 => False.elim (by revert c9; decide)) (fun c9 => ?_)
  refine ax_s (pc' := 17) (st' := [.int 1]) rfl rfl rfl rfl ?_
  refine ax_s (pc' := 18) (st' := [.int 5, .int 1]) rfl rfl rfl rfl ?_
  refine ax_cmp_ne rfl (fun c10 => ?_) (fun c10 => False.elim (by revert c10; decide))
  refine ax_s (pc' := 26) (st' := [.ref 2]) rfl rfl rfl rfl ?_
  refine ax_s (pc' := 27) (st' := [.int 1, .ref 2]) rfl rfl rfl rfl ?_
  refine ax_ald (j := 1) (v := 0) rfl (hh_s2 _ _ _) rfl rfl (by decide) (by decide) rfl ?_
  refine ax_s (pc' := 29) (ls' := [some (.int 2), some (.int 5), some (.int 0), some (.int 1)]) (st' := []) rfl rfl rfl rfl ?_
  refine ax_s (pc' := 32) (ls' := [some (.int 2), some (.int 5), some (.int 0), some (.int 2)]) (st' := []) rfl rfl rfl rfl ?_
  refine ax_s (pc' := 4) (st' := []) rfl rfl rfl rfl ?_
  refine ax_s (pc' := 5) (st' := [.int 2]) rfl rfl rfl rfl ?_
  refine ax_s (pc' := 6) (st' := [.int 5, .int 2]) rfl rfl rfl rfl ?_
  refine ax_cmp_gt rfl (fun c11 => False.elim (by revert c11; decide)) (fun c11 => ?_)
  refine ax_s (pc' := 10) (st' := [.int 0]) rfl rfl rfl rfl ?_
  refine ax_call (vs := [.int 0]) (rr := []) rfl rfl rfl ?_
  refine ax_in (ls := [some (.int 0)]) rfl ?_
  refine ax_s (pc' := 1) (st' := [.int 0]) rfl rfl rfl rfl ?_
  refine ax_if_lt rfl (fun c12 => False.elim (by revert c12; decide)) (fun c12 => ?_)
  refine ax_s (pc' := 5) (st' := [.int 0]) rfl rfl rfl rfl ?_
  refine ax_s (pc' := 6) (st' := [.int 5, .int 0]) rfl rfl rfl rfl ?_
  refine ax_cmp_gt rfl (fun c13 => False.elim (by revert c13; decide)) (fun c13 => ?_)
  refine ax_s (pc' := 10) (st' := [.int 1]) rfl rfl rfl rfl ?_
  refine ax_s (pc' := 14) (st' := [.int 1]) rfl rfl rfl rfl ?_
  refine ax_rb (b := true) rfl rfl ?_
  show am_ex (d + 1) 134 13 [some (.int 2), some (.int 5), some (.int 0), some (.int 2)] [.int 1] (am_hh X S L) _
  refine ax_if_eq rfl (fun c14 => False.elim (by revert c14; decide)) (fun c14 => ?_)
  refine ax_s (pc' := 17) (st' := [.int 0]) rfl rfl rfl rfl ?_
  refine ax_s (pc' := 18) (st' := [.int 5, .int 0]) rfl rfl rfl rfl ?_
  refine ax_cmp_ne rfl (fun c15 => ?_) (fun c15 => False.elim (by revert c15; decide))
  refine ax_s (pc' := 26) (st' := [.ref 2]) rfl rfl rfl rfl ?_
  refine ax_s (pc' := 27) (st' := [.int 0, .ref 2]) rfl rfl rfl rfl ?_
  refine ax_ald (j := 0) (v := (-1000000)) rfl (hh_s2 _ _ _) rfl rfl (by decide) (by decide) rfl ?_
  refine ax_s (pc' := 29) (ls' := [some (.int 2), some (.int 5), some (.int (-1000000)), some (.int 2)]) (st' := []) rfl rfl rfl rfl ?_
  refine ax_s (pc' := 32) (ls' := [some (.int 2), some (.int 5), some (.int (-1000000)), some (.int 3)]) (st' := []) rfl rfl rfl rfl ?_
  refine ax_s (pc' := 4) (st' := []) rfl rfl rfl rfl ?_
  refine ax_s (pc' := 5) (st' := [.int 3]) rfl rfl rfl rfl ?_
  refine ax_s (pc' := 6) (st' := [.int 5, .int 3]) rfl rfl rfl rfl ?_
  refine ax_cmp_gt rfl (fun c16 => False.elim (by revert c16; decide)) (fun c16 => ?_)
  refine ax_s (pc' := 10) (st' := [.int (-1000000)]) rfl rfl rfl rfl ?_
  refine ax_call (vs := [.int (-1000000)]) (rr := []) rfl rfl rfl ?_
  refine ax_in (ls := [some (.int (-1000000))]) rfl ?_
  refine ax_s (pc' := 1) (st' := [.int (-1000000)]) rfl rfl rfl rfl ?_
  refine ax_if_lt rfl (fun c17 => ?_) (fun c17 => False.elim (by revert c17; decide))
  refine ax_s (pc' := 14) (st' := [.int 0]) rfl rfl rfl rfl ?_
  refine ax_rb (b := false) rfl rfl ?_
  show am_ex (d + 1) 134 13 [some (.int 2), some (.int 5), some (.int (-1000000)), some (.int 3)] [.int 0] (am_hh X S L) _
  refine ax_if_eq rfl (fun c18 => ?_) (fun c18 => False.elim (by revert c18; decide))
  refine ax_s (pc' := 36) (st' := [.int 0]) rfl rfl rfl rfl ?_
  refine ax_rb (b := false) rfl rfl ?_
  exact k1
theorem kt_isSuch_3_0 {d : Nat} {X : Nat × (Nat → Int32)} {S : Nat → Nat → Int32} {L : Nat → Int64} {Q : Option Value → am_H → Prop}  (k1 : Q (some (.int 1)) (am_hh X S L)) : am_mt (d + 1) 134 [.int 3, .int 0] (am_hh X S L) Q := by
  refine ax_in (ls := [some (.int 3), some (.int 0), none, none]) rfl ?_
  refine ax_s (pc' := 1) (st' := [.int 3]) rfl rfl rfl rfl ?_
  refine ax_s (pc' := 2) (ls' := [some (.int 3), some (.int 0), some (.int 3), none]) (st' := []) rfl rfl rfl rfl ?_
  refine ax_s (pc' := 3) (st' := [.int 0]) rfl rfl rfl rfl ?_
  refine ax_s (pc' := 4) (ls' := [some (.int 3), some (.int 0), some (.int 3), some (.int 0)]) (st' := []) rfl rfl rfl rfl ?_
  refine ax_s (pc' := 5) (st' := [.int 0]) rfl rfl rfl rfl ?_
  refine ax_s (pc' := 6) (st' := [.int 5, .int 0]) rfl rfl rfl rfl ?_
  refine ax_cmp_gt rfl (fun c1 => False.elim (by revert c1; decide)) (fun c1 => ?_)
  refine ax_s (pc' := 10) (st' := [.int 3]) rfl rfl rfl rfl ?_
  refine ax_call (vs := [.int 3]) (rr := []) rfl rfl rfl ?_
  refine ax_in (ls := [some (.int 3)]) rfl ?_
  refine ax_s (pc' := 1) (st' := [.int 3]) rfl rfl rfl rfl ?_
  refine ax_if_lt rfl (fun c2 => False.elim (by revert c2; decide)) (fun c2 => ?_)
  refine ax_s (pc' := 5) (st' := [.int 3]) rfl rfl rfl rfl ?_
  refine ax_s (pc' := 6) (st' := [.int 5, .int 3]) rfl rfl rfl rfl ?_
  refine ax_cmp_gt rfl (fun c3 => False.elim (by revert c3; decide)) (fun c3 => ?_)
  refine ax_s (pc' := 10) (st' := [.int 1]) rfl rfl rfl rfl ?_
  refine ax_s (pc' := 14) (st' := [.int 1]) rfl rfl rfl rfl ?_
  refine ax_rb (b := true) rfl rfl ?_
  show am_ex (d + 1) 134 13 [some (.int 3), some (.int 0), some (.int 3), some (.int 0)] [.int 1] (am_hh X S L) _
  refine ax_if_eq rfl (fun c4 => False.elim (by revert c4; decide)) (fun c4 => ?_)
  refine ax_s (pc' := 17) (st' := [.int 3]) rfl rfl rfl rfl ?_
  refine ax_s (pc' := 18) (st' := [.int 0, .int 3]) rfl rfl rfl rfl ?_
  refine ax_cmp_ne rfl (fun c5 => ?_) (fun c5 => False.elim (by revert c5; decide))
  refine ax_s (pc' := 26) (st' := [.ref 2]) rfl rfl rfl rfl ?_
  refine ax_s (pc' := 27) (st' := [.int 3, .ref 2]) rfl rfl rfl rfl ?_
  refine ax_ald (j := 3) (v := 1) rfl (hh_s2 _ _ _) rfl rfl (by decide) (by decide) rfl ?_
  refine ax_s (pc' := 29) (ls' := [some (.int 3), some (.int 0), some (.int 1), some (.int 0)]) (st' := []) rfl rfl rfl rfl ?_
  refine ax_s (pc' := 32) (ls' := [some (.int 3), some (.int 0), some (.int 1), some (.int 1)]) (st' := []) rfl rfl rfl rfl ?_
  refine ax_s (pc' := 4) (st' := []) rfl rfl rfl rfl ?_
  refine ax_s (pc' := 5) (st' := [.int 1]) rfl rfl rfl rfl ?_
  refine ax_s (pc' := 6) (st' := [.int 5, .int 1]) rfl rfl rfl rfl ?_
  refine ax_cmp_gt rfl (fun c6 => False.elim (by revert c6; decide)) (fun c6 => ?_)
  refine ax_s (pc' := 10) (st' := [.int 1]) rfl rfl rfl rfl ?_
  refine ax_call (vs := [.int 1]) (rr := []) rfl rfl rfl ?_
  refine ax_in (ls := [some (.int 1)]) rfl ?_
  refine ax_s (pc' := 1) (st' := [.int 1]) rfl rfl rfl rfl ?_
  refine ax_if_lt rfl (fun c7 => False.elim (by revert c7; decide)) (fun c7 => ?_)
  refine ax_s (pc' := 5) (st' := [.int 1]) rfl rfl rfl rfl ?_
  refine ax_s (pc' := 6) (st' := [.int 5, .int 1]) rfl rfl rfl rfl ?_
  refine ax_cmp_gt rfl (fun c8 => False.elim (by revert c8; decide)) (fun c8 => ?_)
  refine ax_s (pc' := 10) (st' := [.int 1]) rfl rfl rfl rfl ?_
  refine ax_s (pc' := 14) (st' := [.int 1]) rfl rfl rfl rfl ?_
  refine ax_rb (b := true) rfl rfl ?_
  show am_ex (d + 1) 134 13 [some (.int 3), some (.int 0), some (.int 1), some (.int 1)] [.int 1] (am_hh X S L) _
  refine ax_if_eq rfl (fun c9 => False.elim (by revert c9; decide)) (fun c9 => ?_)
  refine ax_s (pc' := 17) (st' := [.int 1]) rfl rfl rfl rfl ?_
  refine ax_s (pc' := 18) (st' := [.int 0, .int 1]) rfl rfl rfl rfl ?_
  refine ax_cmp_ne rfl (fun c10 => ?_) (fun c10 => False.elim (by revert c10; decide))
  refine ax_s (pc' := 26) (st' := [.ref 2]) rfl rfl rfl rfl ?_
  refine ax_s (pc' := 27) (st' := [.int 1, .ref 2]) rfl rfl rfl rfl ?_
  refine ax_ald (j := 1) (v := 0) rfl (hh_s2 _ _ _) rfl rfl (by decide) (by decide) rfl ?_
  refine ax_s (pc' := 29) (ls' := [some (.int 3), some (.int 0), some (.int 0), some (.int 1)]) (st' := []) rfl rfl rfl rfl ?_
  refine ax_s (pc' := 32) (ls' := [some (.int 3), some (.int 0), some (.int 0), some (.int 2)]) (st' := []) rfl rfl rfl rfl ?_
  refine ax_s (pc' := 4) (st' := []) rfl rfl rfl rfl ?_
  refine ax_s (pc' := 5) (st' := [.int 2]) rfl rfl rfl rfl ?_
  refine ax_s (pc' := 6) (st' := [.int 5, .int 2]) rfl rfl rfl rfl ?_
  refine ax_cmp_gt rfl (fun c11 => False.elim (by revert c11; decide)) (fun c11 => ?_)
  refine ax_s (pc' := 10) (st' := [.int 0]) rfl rfl rfl rfl ?_
  refine ax_call (vs := [.int 0]) (rr := []) rfl rfl rfl ?_
  refine ax_in (ls := [some (.int 0)]) rfl ?_
  refine ax_s (pc' := 1) (st' := [.int 0]) rfl rfl rfl rfl ?_
  refine ax_if_lt rfl (fun c12 => False.elim (by revert c12; decide)) (fun c12 => ?_)
  refine ax_s (pc' := 5) (st' := [.int 0]) rfl rfl rfl rfl ?_
  refine ax_s (pc' := 6) (st' := [.int 5, .int 0]) rfl rfl rfl rfl ?_
  refine ax_cmp_gt rfl (fun c13 => False.elim (by revert c13; decide)) (fun c13 => ?_)
  refine ax_s (pc' := 10) (st' := [.int 1]) rfl rfl rfl rfl ?_
  refine ax_s (pc' := 14) (st' := [.int 1]) rfl rfl rfl rfl ?_
  refine ax_rb (b := true) rfl rfl ?_
  show am_ex (d + 1) 134 13 [some (.int 3), some (.int 0), some (.int 0), some (.int 2)] [.int 1] (am_hh X S L) _
  refine ax_if_eq rfl (fun c14 => False.elim (by revert c14; decide)) (fun c14 => ?_)
  refine ax_s (pc' := 17) (st' := [.int 0]) rfl rfl rfl rfl ?_
  refine ax_s (pc' := 18) (st' := [.int 0, .int 0]) rfl rfl rfl rfl ?_
  refine ax_cmp_ne rfl (fun c15 => False.elim (by revert c15; decide)) (fun c15 => ?_)
  refine ax_s (pc' := 22) (st' := [.int 1]) rfl rfl rfl rfl ?_
  refine ax_rb (b := true) rfl rfl ?_
  exact k1
theorem kt_isSuch_3_1 {d : Nat} {X : Nat × (Nat → Int32)} {S : Nat → Nat → Int32} {L : Nat → Int64} {Q : Option Value → am_H → Prop}  (k1 : Q (some (.int 1)) (am_hh X S L)) : am_mt (d + 1) 134 [.int 3, .int 1] (am_hh X S L) Q := by
  refine ax_in (ls := [some (.int 3), some (.int 1), none, none]) rfl ?_
  refine ax_s (pc' := 1) (st' := [.int 3]) rfl rfl rfl rfl ?_
  refine ax_s (pc' := 2) (ls' := [some (.int 3), some (.int 1), some (.int 3), none]) (st' := []) rfl rfl rfl rfl ?_
  refine ax_s (pc' := 3) (st' := [.int 0]) rfl rfl rfl rfl ?_
  refine ax_s (pc' := 4) (ls' := [some (.int 3), some (.int 1), some (.int 3), some (.int 0)]) (st' := []) rfl rfl rfl rfl ?_
  refine ax_s (pc' := 5) (st' := [.int 0]) rfl rfl rfl rfl ?_
  refine ax_s (pc' := 6) (st' := [.int 5, .int 0]) rfl rfl rfl rfl ?_
  refine ax_cmp_gt rfl (fun c1 => False.elim (by revert c1; decide)) (fun c1 => ?_)
  refine ax_s (pc' := 10) (st' := [.int 3]) rfl rfl rfl rfl ?_
  refine ax_call (vs := [.int 3]) (rr := []) rfl rfl rfl ?_
  refine ax_in (ls := [some (.int 3)]) rfl ?_
  refine ax_s (pc' := 1) (st' := [.int 3]) rfl rfl rfl rfl ?_
  refine ax_if_lt rfl (fun c2 => False.elim (by revert c2; decide)) (fun c2 => ?_)
  refine ax_s (pc' := 5) (st' := [.int 3]) rfl rfl rfl rfl ?_
  refine ax_s (pc' := 6) (st' := [.int 5, .int 3]) rfl rfl rfl rfl ?_
  refine ax_cmp_gt rfl (fun c3 => False.elim (by revert c3; decide)) (fun c3 => ?_)
  refine ax_s (pc' := 10) (st' := [.int 1]) rfl rfl rfl rfl ?_
  refine ax_s (pc' := 14) (st' := [.int 1]) rfl rfl rfl rfl ?_
  refine ax_rb (b := true) rfl rfl ?_
  show am_ex (d + 1) 134 13 [some (.int 3), some (.int 1), some (.int 3), some (.int 0)] [.int 1] (am_hh X S L) _
  refine ax_if_eq rfl (fun c4 => False.elim (by revert c4; decide)) (fun c4 => ?_)
  refine ax_s (pc' := 17) (st' := [.int 3]) rfl rfl rfl rfl ?_
  refine ax_s (pc' := 18) (st' := [.int 1, .int 3]) rfl rfl rfl rfl ?_
  refine ax_cmp_ne rfl (fun c5 => ?_) (fun c5 => False.elim (by revert c5; decide))
  refine ax_s (pc' := 26) (st' := [.ref 2]) rfl rfl rfl rfl ?_
  refine ax_s (pc' := 27) (st' := [.int 3, .ref 2]) rfl rfl rfl rfl ?_
  refine ax_ald (j := 3) (v := 1) rfl (hh_s2 _ _ _) rfl rfl (by decide) (by decide) rfl ?_
  refine ax_s (pc' := 29) (ls' := [some (.int 3), some (.int 1), some (.int 1), some (.int 0)]) (st' := []) rfl rfl rfl rfl ?_
  refine ax_s (pc' := 32) (ls' := [some (.int 3), some (.int 1), some (.int 1), some (.int 1)]) (st' := []) rfl rfl rfl rfl ?_
  refine ax_s (pc' := 4) (st' := []) rfl rfl rfl rfl ?_
  refine ax_s (pc' := 5) (st' := [.int 1]) rfl rfl rfl rfl ?_
  refine ax_s (pc' := 6) (st' := [.int 5, .int 1]) rfl rfl rfl rfl ?_
  refine ax_cmp_gt rfl (fun c6 => False.elim (by revert c6; decide)) (fun c6 => ?_)
  refine ax_s (pc' := 10) (st' := [.int 1]) rfl rfl rfl rfl ?_
  refine ax_call (vs := [.int 1]) (rr := []) rfl rfl rfl ?_
  refine ax_in (ls := [some (.int 1)]) rfl ?_
  refine ax_s (pc' := 1) (st' := [.int 1]) rfl rfl rfl rfl ?_
  refine ax_if_lt rfl (fun c7 => False.elim (by revert c7; decide)) (fun c7 => ?_)
  refine ax_s (pc' := 5) (st' := [.int 1]) rfl rfl rfl rfl ?_
  refine ax_s (pc' := 6) (st' := [.int 5, .int 1]) rfl rfl rfl rfl ?_
  refine ax_cmp_gt rfl (fun c8 => False.elim (by revert c8; decide)) (fun c8 => ?_)
  refine ax_s (pc' := 10) (st' := [.int 1]) rfl rfl rfl rfl ?_
  refine ax_s (pc' := 14) (st' := [.int 1]) rfl rfl rfl rfl ?_
  refine ax_rb (b := true) rfl rfl ?_
  show am_ex (d + 1) 134 13 [some (.int 3), some (.int 1), some (.int 1), some (.int 1)] [.int 1] (am_hh X S L) _
  refine ax_if_eq rfl (fun c9 => False.elim (by revert c9; decide)) (fun c9 => ?_)
  refine ax_s (pc' := 17) (st' := [.int 1]) rfl rfl rfl rfl ?_
  refine ax_s (pc' := 18) (st' := [.int 1, .int 1]) rfl rfl rfl rfl ?_
  refine ax_cmp_ne rfl (fun c10 => False.elim (by revert c10; decide)) (fun c10 => ?_)
  refine ax_s (pc' := 22) (st' := [.int 1]) rfl rfl rfl rfl ?_
  refine ax_rb (b := true) rfl rfl ?_
  exact k1
theorem kt_isSuch_3_2 {d : Nat} {X : Nat × (Nat → Int32)} {S : Nat → Nat → Int32} {L : Nat → Int64} {Q : Option Value → am_H → Prop}  (k1 : Q (some (.int 0)) (am_hh X S L)) : am_mt (d + 1) 134 [.int 3, .int 2] (am_hh X S L) Q := by
  refine ax_in (ls := [some (.int 3), some (.int 2), none, none]) rfl ?_
  refine ax_s (pc' := 1) (st' := [.int 3]) rfl rfl rfl rfl ?_
  refine ax_s (pc' := 2) (ls' := [some (.int 3), some (.int 2), some (.int 3), none]) (st' := []) rfl rfl rfl rfl ?_
  refine ax_s (pc' := 3) (st' := [.int 0]) rfl rfl rfl rfl ?_
  refine ax_s (pc' := 4) (ls' := [some (.int 3), some (.int 2), some (.int 3), some (.int 0)]) (st' := []) rfl rfl rfl rfl ?_
  refine ax_s (pc' := 5) (st' := [.int 0]) rfl rfl rfl rfl ?_
  refine ax_s (pc' := 6) (st' := [.int 5, .int 0]) rfl rfl rfl rfl ?_
  refine ax_cmp_gt rfl (fun c1 => False.elim (by revert c1; decide)) (fun c1 => ?_)
  refine ax_s (pc' := 10) (st' := [.int 3]) rfl rfl rfl rfl ?_
  refine ax_call (vs := [.int 3]) (rr := []) rfl rfl rfl ?_
  refine ax_in (ls := [some (.int 3)]) rfl ?_
  refine ax_s (pc' := 1) (st' := [.int 3]) rfl rfl rfl rfl ?_
  refine ax_if_lt rfl (fun c2 => False.elim (by revert c2; decide)) (fun c2 => ?_)
  refine ax_s (pc' := 5) (st' := [.int 3]) rfl rfl rfl rfl ?_
  refine ax_s (pc' := 6) (st' := [.int 5, .int 3]) rfl rfl rfl rfl ?_
  refine ax_cmp_gt rfl (fun c3 => False.elim (by revert c3; decide)) (fun c3 => ?_)
  refine ax_s (pc' := 10) (st' := [.int 1]) rfl rfl rfl rfl ?_
  refine ax_s (pc' := 14) (st' := [.int 1]) rfl rfl rfl rfl ?_
  refine ax_rb (b := true) rfl rfl ?_
  show am_ex (d + 1) 134 13 [some (.int 3), some (.int 2), some (.int 3), some (.int 0)] [.int 1] (am_hh X S L) _
  refine ax_if_eq rfl (fun c4 => False.elim (by revert c4; decide)) (fun c4 => ?_)
  refine ax_s (pc' := 17) (st' := [.int 3]) rfl rfl rfl rfl ?_
  refine ax_s (pc' := 18) (st' := [.int 2, .int 3]) rfl rfl rfl rfl ?_
  refine ax_cmp_ne rfl (fun c5 => ?_) (fun c5 => False.elim (by revert c5; decide))
  refine ax_s (pc' := 26) (st' := [.ref 2]) rfl rfl rfl rfl ?_
  refine ax_s (pc' := 27) (st' := [.int 3, .ref 2]) rfl rfl rfl rfl ?_
  refine ax_ald (j := 3) (v := 1) rfl (hh_s2 _ _ _) rfl rfl (by decide) (by decide) rfl ?_
  refine ax_s (pc' := 29) (ls' := [some (.int 3), some (.int 2), some (.int 1), some (.int 0)]) (st' := []) rfl rfl rfl rfl ?_
  refine ax_s (pc' := 32) (ls' := [some (.int 3), some (.int 2), some (.int 1), some (.int 1)]) (st' := []) rfl rfl rfl rfl ?_
  refine ax_s (pc' := 4) (st' := []) rfl rfl rfl rfl ?_
  refine ax_s (pc' := 5) (st' := [.int 1]) rfl rfl rfl rfl ?_
  refine ax_s (pc' := 6) (st' := [.int 5, .int 1]) rfl rfl rfl rfl ?_
  refine ax_cmp_gt rfl (fun c6 => False.elim (by revert c6; decide)) (fun c6 => ?_)
  refine ax_s (pc' := 10) (st' := [.int 1]) rfl rfl rfl rfl ?_
  refine ax_call (vs := [.int 1]) (rr := []) rfl rfl rfl ?_
  refine ax_in (ls := [some (.int 1)]) rfl ?_
  refine ax_s (pc' := 1) (st' := [.int 1]) rfl rfl rfl rfl ?_
  refine ax_if_lt rfl (fun c7 => False.elim (by revert c7; decide)) (fun c7 => ?_)
  refine ax_s (pc' := 5) (st' := [.int 1]) rfl rfl rfl rfl ?_
  refine ax_s (pc' := 6) (st' := [.int 5, .int 1]) rfl rfl rfl rfl ?_
  refine ax_cmp_gt rfl (fun c8 => False.elim (by revert c8; decide)) (fun c8 => ?_)
  refine ax_s (pc' := 10) (st' := [.int 1]) rfl rfl rfl rfl ?_
  refine ax_s (pc' := 14) (st' := [.int 1]) rfl rfl rfl rfl ?_
  refine ax_rb (b := true) rfl rfl ?_
  show am_ex (d + 1) 134 13 [some (.int 3), some (.int 2), some (.int 1), some (.int 1)] [.int 1] (am_hh X S L) _
  refine ax_if_eq rfl (fun c9 => False.elim (by revert c9; decide)) (fun c9 => ?_)
  refine ax_s (pc' := 17) (st' := [.int 1]) rfl rfl rfl rfl ?_
  refine ax_s (pc' := 18) (st' := [.int 2, .int 1]) rfl rfl rfl rfl ?_
  refine ax_cmp_ne rfl (fun c10 => ?_) (fun c10 => False.elim (by revert c10; decide))
  refine ax_s (pc' := 26) (st' := [.ref 2]) rfl rfl rfl rfl ?_
  refine ax_s (pc' := 27) (st' := [.int 1, .ref 2]) rfl rfl rfl rfl ?_
  refine ax_ald (j := 1) (v := 0) rfl (hh_s2 _ _ _) rfl rfl (by decide) (by decide) rfl ?_
  refine ax_s (pc' := 29) (ls' := [some (.int 3), some (.int 2), some (.int 0), some (.int 1)]) (st' := []) rfl rfl rfl rfl ?_
  refine ax_s (pc' := 32) (ls' := [some (.int 3), some (.int 2), some (.int 0), some (.int 2)]) (st' := []) rfl rfl rfl rfl ?_
  refine ax_s (pc' := 4) (st' := []) rfl rfl rfl rfl ?_
  refine ax_s (pc' := 5) (st' := [.int 2]) rfl rfl rfl rfl ?_
  refine ax_s (pc' := 6) (st' := [.int 5, .int 2]) rfl rfl rfl rfl ?_
  refine ax_cmp_gt rfl (fun c11 => False.elim (by revert c11; decide)) (fun c11 => ?_)
  refine ax_s (pc' := 10) (st' := [.int 0]) rfl rfl rfl rfl ?_
  refine ax_call (vs := [.int 0]) (rr := []) rfl rfl rfl ?_
  refine ax_in (ls := [some (.int 0)]) rfl ?_
  refine ax_s (pc' := 1) (st' := [.int 0]) rfl rfl rfl rfl ?_
  refine ax_if_lt rfl (fun c12 => False.elim (by revert c12; decide)) (fun c12 => ?_)
  refine ax_s (pc' := 5) (st' := [.int 0]) rfl rfl rfl rfl ?_
  refine ax_s (pc' := 6) (st' := [.int 5, .int 0]) rfl rfl rfl rfl ?_
  refine ax_cmp_gt rfl (fun c13 => False.elim (by revert c13; decide)) (fun c13 => ?_)
  refine ax_s (pc' := 10) (st' := [.int 1]) rfl rfl rfl rfl ?_
  refine ax_s (pc' := 14) (st' := [.int 1]) rfl rfl rfl rfl ?_
  refine ax_rb (b := true) rfl rfl ?_
  show am_ex (d + 1) 134 13 [some (.int 3), some (.int 2), some (.int 0), some (.int 2)] [.int 1] (am_hh X S L) _
  refine ax_if_eq rfl (fun c14 => False.elim (by revert c14; decide)) (fun c14 => ?_)
  refine ax_s (pc' := 17) (st' := [.int 0]) rfl rfl rfl rfl ?_
  refine ax_s (pc' := 18) (st' := [.int 2, .int 0]) rfl rfl rfl rfl ?_
  refine ax_cmp_ne rfl (fun c15 => ?_) (fun c15 => False.elim (by revert c15; decide))
  refine ax_s (pc' := 26) (st' := [.ref 2]) rfl rfl rfl rfl ?_
  refine ax_s (pc' := 27) (st' := [.int 0, .ref 2]) rfl rfl rfl rfl ?_
  refine ax_ald (j := 0) (v := (-1000000)) rfl (hh_s2 _ _ _) rfl rfl (by decide) (by decide) rfl ?_
  refine ax_s (pc' := 29) (ls' := [some (.int 3), some (.int 2), some (.int (-1000000)), some (.int 2)]) (st' := []) rfl rfl rfl rfl ?_
  refine ax_s (pc' := 32) (ls' := [some (.int 3), some (.int 2), some (.int (-1000000)), some (.int 3)]) (st' := []) rfl rfl rfl rfl ?_
  refine ax_s (pc' := 4) (st' := []) rfl rfl rfl rfl ?_
  refine ax_s (pc' := 5) (st' := [.int 3]) rfl rfl rfl rfl ?_
  refine ax_s (pc' := 6) (st' := [.int 5, .int 3]) rfl rfl rfl rfl ?_
  refine ax_cmp_gt rfl (fun c16 => False.elim (by revert c16; decide)) (fun c16 => ?_)
  refine ax_s (pc' := 10) (st' := [.int (-1000000)]) rfl rfl rfl rfl ?_
  refine ax_call (vs := [.int (-1000000)]) (rr := []) rfl rfl rfl ?_
  refine ax_in (ls := [some (.int (-1000000))]) rfl ?_
  refine ax_s (pc' := 1) (st' := [.int (-1000000)]) rfl rfl rfl rfl ?_
  refine ax_if_lt rfl (fun c17 => ?_) (fun c17 => False.elim (by revert c17; decide))
  refine ax_s (pc' := 14) (st' := [.int 0]) rfl rfl rfl rfl ?_
  refine ax_rb (b := false) rfl rfl ?_
  show am_ex (d + 1) 134 13 [some (.int 3), some (.int 2), some (.int (-1000000)), some (.int 3)] [.int 0] (am_hh X S L) _
  refine ax_if_eq rfl (fun c18 => ?_) (fun c18 => False.elim (by revert c18; decide))
  refine ax_s (pc' := 36) (st' := [.int 0]) rfl rfl rfl rfl ?_
  refine ax_rb (b := false) rfl rfl ?_
  exact k1
theorem kt_isSuch_3_3 {d : Nat} {X : Nat × (Nat → Int32)} {S : Nat → Nat → Int32} {L : Nat → Int64} {Q : Option Value → am_H → Prop}  (k1 : Q (some (.int 1)) (am_hh X S L)) : am_mt (d + 1) 134 [.int 3, .int 3] (am_hh X S L) Q := by
  refine ax_in (ls := [some (.int 3), some (.int 3), none, none]) rfl ?_
  refine ax_s (pc' := 1) (st' := [.int 3]) rfl rfl rfl rfl ?_
  refine ax_s (pc' := 2) (ls' := [some (.int 3), some (.int 3), some (.int 3), none]) (st' := []) rfl rfl rfl rfl ?_
  refine ax_s (pc' := 3) (st' := [.int 0]) rfl rfl rfl rfl ?_
  refine ax_s (pc' := 4) (ls' := [some (.int 3), some (.int 3), some (.int 3), some (.int 0)]) (st' := []) rfl rfl rfl rfl ?_
  refine ax_s (pc' := 5) (st' := [.int 0]) rfl rfl rfl rfl ?_
  refine ax_s (pc' := 6) (st' := [.int 5, .int 0]) rfl rfl rfl rfl ?_
  refine ax_cmp_gt rfl (fun c1 => False.elim (by revert c1; decide)) (fun c1 => ?_)
  refine ax_s (pc' := 10) (st' := [.int 3]) rfl rfl rfl rfl ?_
  refine ax_call (vs := [.int 3]) (rr := []) rfl rfl rfl ?_
  refine ax_in (ls := [some (.int 3)]) rfl ?_
  refine ax_s (pc' := 1) (st' := [.int 3]) rfl rfl rfl rfl ?_
  refine ax_if_lt rfl (fun c2 => False.elim (by revert c2; decide)) (fun c2 => ?_)
  refine ax_s (pc' := 5) (st' := [.int 3]) rfl rfl rfl rfl ?_
  refine ax_s (pc' := 6) (st' := [.int 5, .int 3]) rfl rfl rfl rfl ?_
  refine ax_cmp_gt rfl (fun c3 => False.elim (by revert c3; decide)) (fun c3 => ?_)
  refine ax_s (pc' := 10) (st' := [.int 1]) rfl rfl rfl rfl ?_
  refine ax_s (pc' := 14) (st' := [.int 1]) rfl rfl rfl rfl ?_
  refine ax_rb (b := true) rfl rfl ?_
  show am_ex (d + 1) 134 13 [some (.int 3), some (.int 3), some (.int 3), some (.int 0)] [.int 1] (am_hh X S L) _
  refine ax_if_eq rfl (fun c4 => False.elim (by revert c4; decide)) (fun c4 => ?_)
  refine ax_s (pc' := 17) (st' := [.int 3]) rfl rfl rfl rfl ?_
  refine ax_s (pc' := 18) (st' := [.int 3, .int 3]) rfl rfl rfl rfl ?_
  refine ax_cmp_ne rfl (fun c5 => False.elim (by revert c5; decide)) (fun c5 => ?_)
  refine ax_s (pc' := 22) (st' := [.int 1]) rfl rfl rfl rfl ?_
  refine ax_rb (b := true) rfl rfl ?_
  exact k1
theorem kt_isSuch_3_4 {d : Nat} {X : Nat × (Nat → Int32)} {S : Nat → Nat → Int32} {L : Nat → Int64} {Q : Option Value → am_H → Prop}  (k1 : Q (some (.int 0)) (am_hh X S L)) : am_mt (d + 1) 134 [.int 3, .int 4] (am_hh X S L) Q := by
  refine ax_in (ls := [some (.int 3), some (.int 4), none, none]) rfl ?_
  refine ax_s (pc' := 1) (st' := [.int 3]) rfl rfl rfl rfl ?_
  refine ax_s (pc' := 2) (ls' := [some (.int 3), some (.int 4), some (.int 3), none]) (st' := []) rfl rfl rfl rfl ?_
  refine ax_s (pc' := 3) (st' := [.int 0]) rfl rfl rfl rfl ?_
  refine ax_s (pc' := 4) (ls' := [some (.int 3), some (.int 4), some (.int 3), some (.int 0)]) (st' := []) rfl rfl rfl rfl ?_
  refine ax_s (pc' := 5) (st' := [.int 0]) rfl rfl rfl rfl ?_
  refine ax_s (pc' := 6) (st' := [.int 5, .int 0]) rfl rfl rfl rfl ?_
  refine ax_cmp_gt rfl (fun c1 => False.elim (by revert c1; decide)) (fun c1 => ?_)
  refine ax_s (pc' := 10) (st' := [.int 3]) rfl rfl rfl rfl ?_
  refine ax_call (vs := [.int 3]) (rr := []) rfl rfl rfl ?_
  refine ax_in (ls := [some (.int 3)]) rfl ?_
  refine ax_s (pc' := 1) (st' := [.int 3]) rfl rfl rfl rfl ?_
  refine ax_if_lt rfl (fun c2 => False.elim (by revert c2; decide)) (fun c2 => ?_)
  refine ax_s (pc' := 5) (st' := [.int 3]) rfl rfl rfl rfl ?_
  refine ax_s (pc' := 6) (st' := [.int 5, .int 3]) rfl rfl rfl rfl ?_
  refine ax_cmp_gt rfl (fun c3 => False.elim (by revert c3; decide)) (fun c3 => ?_)
  refine ax_s (pc' := 10) (st' := [.int 1]) rfl rfl rfl rfl ?_
  refine ax_s (pc' := 14) (st' := [.int 1]) rfl rfl rfl rfl ?_
  refine ax_rb (b := true) rfl rfl ?_
  show am_ex (d + 1) 134 13 [some (.int 3), some (.int 4), some (.int 3), some (.int 0)] [.int 1] (am_hh X S L) _
  refine ax_if_eq rfl (fun c4 => False.elim (by revert c4; decide)) (fun c4 => ?_)
  refine ax_s (pc' := 17) (st' := [.int 3]) rfl rfl rfl rfl ?_
  refine ax_s (pc' := 18) (st' := [.int 4, .int 3]) rfl rfl rfl rfl ?_
  refine ax_cmp_ne rfl (fun c5 => ?_) (fun c5 => False.elim (by revert c5; decide))
  refine ax_s (pc' := 26) (st' := [.ref 2]) rfl rfl rfl rfl ?_
  refine ax_s (pc' := 27) (st' := [.int 3, .ref 2]) rfl rfl rfl rfl ?_
  refine ax_ald (j := 3) (v := 1) rfl (hh_s2 _ _ _) rfl rfl (by decide) (by decide) rfl ?_
  refine ax_s (pc' := 29) (ls' := [some (.int 3), some (.int 4), some (.int 1), some (.int 0)]) (st' := []) rfl rfl rfl rfl ?_
  refine ax_s (pc' := 32) (ls' := [some (.int 3), some (.int 4), some (.int 1), some (.int 1)]) (st' := []) rfl rfl rfl rfl ?_
  refine ax_s (pc' := 4) (st' := []) rfl rfl rfl rfl ?_
  refine ax_s (pc' := 5) (st' := [.int 1]) rfl rfl rfl rfl ?_
  refine ax_s (pc' := 6) (st' := [.int 5, .int 1]) rfl rfl rfl rfl ?_
  refine ax_cmp_gt rfl (fun c6 => False.elim (by revert c6; decide)) (fun c6 => ?_)
  refine ax_s (pc' := 10) (st' := [.int 1]) rfl rfl rfl rfl ?_
  refine ax_call (vs := [.int 1]) (rr := []) rfl rfl rfl ?_
  refine ax_in (ls := [some (.int 1)]) rfl ?_
  refine ax_s (pc' := 1) (st' := [.int 1]) rfl rfl rfl rfl ?_
  refine ax_if_lt rfl (fun c7 => False.elim (by revert c7; decide)) (fun c7 => ?_)
  refine ax_s (pc' := 5) (st' := [.int 1]) rfl rfl rfl rfl ?_
  refine ax_s (pc' := 6) (st' := [.int 5, .int 1]) rfl rfl rfl rfl ?_
  refine ax_cmp_gt rfl (fun c8 => False.elim (by revert c8; decide)) (fun c8 => ?_)
  refine ax_s (pc' := 10) (st' := [.int 1]) rfl rfl rfl rfl ?_
  refine ax_s (pc' := 14) (st' := [.int 1]) rfl rfl rfl rfl ?_
  refine ax_rb (b := true) rfl rfl ?_
  show am_ex (d + 1) 134 13 [some (.int 3), some (.int 4), some (.int 1), some (.int 1)] [.int 1] (am_hh X S L) _
  refine ax_if_eq rfl (fun c9 => False.elim (by revert c9; decide)) (fun c9 => ?_)
  refine ax_s (pc' := 17) (st' := [.int 1]) rfl rfl rfl rfl ?_
  refine ax_s (pc' := 18) (st' := [.int 4, .int 1]) rfl rfl rfl rfl ?_
  refine ax_cmp_ne rfl (fun c10 => ?_) (fun c10 => False.elim (by revert c10; decide))
  refine ax_s (pc' := 26) (st' := [.ref 2]) rfl rfl rfl rfl ?_
  refine ax_s (pc' := 27) (st' := [.int 1, .ref 2]) rfl rfl rfl rfl ?_
  refine ax_ald (j := 1) (v := 0) rfl (hh_s2 _ _ _) rfl rfl (by decide) (by decide) rfl ?_
  refine ax_s (pc' := 29) (ls' := [some (.int 3), some (.int 4), some (.int 0), some (.int 1)]) (st' := []) rfl rfl rfl rfl ?_
  refine ax_s (pc' := 32) (ls' := [some (.int 3), some (.int 4), some (.int 0), some (.int 2)]) (st' := []) rfl rfl rfl rfl ?_
  refine ax_s (pc' := 4) (st' := []) rfl rfl rfl rfl ?_
  refine ax_s (pc' := 5) (st' := [.int 2]) rfl rfl rfl rfl ?_
  refine ax_s (pc' := 6) (st' := [.int 5, .int 2]) rfl rfl rfl rfl ?_
  refine ax_cmp_gt rfl (fun c11 => False.elim (by revert c11; decide)) (fun c11 => ?_)
  refine ax_s (pc' := 10) (st' := [.int 0]) rfl rfl rfl rfl ?_
  refine ax_call (vs := [.int 0]) (rr := []) rfl rfl rfl ?_
  refine ax_in (ls := [some (.int 0)]) rfl ?_
  refine ax_s (pc' := 1) (st' := [.int 0]) rfl rfl rfl rfl ?_
  refine ax_if_lt rfl (fun c12 => False.elim (by revert c12; decide)) (fun c12 => ?_)
  refine ax_s (pc' := 5) (st' := [.int 0]) rfl rfl rfl rfl ?_
  refine ax_s (pc' := 6) (st' := [.int 5, .int 0]) rfl rfl rfl rfl ?_
  refine ax_cmp_gt rfl (fun c13 => False.elim (by revert c13; decide)) (fun c13 => ?_)
  refine ax_s (pc' := 10) (st' := [.int 1]) rfl rfl rfl rfl ?_
  refine ax_s (pc' := 14) (st' := [.int 1]) rfl rfl rfl rfl ?_
  refine ax_rb (b := true) rfl rfl ?_
  show am_ex (d + 1) 134 13 [some (.int 3), some (.int 4), some (.int 0), some (.int 2)] [.int 1] (am_hh X S L) _
  refine ax_if_eq rfl (fun c14 => False.elim (by revert c14; decide)) (fun c14 => ?_)
  refine ax_s (pc' := 17) (st' := [.int 0]) rfl rfl rfl rfl ?_
  refine ax_s (pc' := 18) (st' := [.int 4, .int 0]) rfl rfl rfl rfl ?_
  refine ax_cmp_ne rfl (fun c15 => ?_) (fun c15 => False.elim (by revert c15; decide))
  refine ax_s (pc' := 26) (st' := [.ref 2]) rfl rfl rfl rfl ?_
  refine ax_s (pc' := 27) (st' := [.int 0, .ref 2]) rfl rfl rfl rfl ?_
  refine ax_ald (j := 0) (v := (-1000000)) rfl (hh_s2 _ _ _) rfl rfl (by decide) (by decide) rfl ?_
  refine ax_s (pc' := 29) (ls' := [some (.int 3), some (.int 4), some (.int (-1000000)), some (.int 2)]) (st' := []) rfl rfl rfl rfl ?_
  refine ax_s (pc' := 32) (ls' := [some (.int 3), some (.int 4), some (.int (-1000000)), some (.int 3)]) (st' := []) rfl rfl rfl rfl ?_
  refine ax_s (pc' := 4) (st' := []) rfl rfl rfl rfl ?_
  refine ax_s (pc' := 5) (st' := [.int 3]) rfl rfl rfl rfl ?_
  refine ax_s (pc' := 6) (st' := [.int 5, .int 3]) rfl rfl rfl rfl ?_
  refine ax_cmp_gt rfl (fun c16 => False.elim (by revert c16; decide)) (fun c16 => ?_)
  refine ax_s (pc' := 10) (st' := [.int (-1000000)]) rfl rfl rfl rfl ?_
  refine ax_call (vs := [.int (-1000000)]) (rr := []) rfl rfl rfl ?_
  refine ax_in (ls := [some (.int (-1000000))]) rfl ?_
  refine ax_s (pc' := 1) (st' := [.int (-1000000)]) rfl rfl rfl rfl ?_
  refine ax_if_lt rfl (fun c17 => ?_) (fun c17 => False.elim (by revert c17; decide))
  refine ax_s (pc' := 14) (st' := [.int 0]) rfl rfl rfl rfl ?_
  refine ax_rb (b := false) rfl rfl ?_
  show am_ex (d + 1) 134 13 [some (.int 3), some (.int 4), some (.int (-1000000)), some (.int 3)] [.int 0] (am_hh X S L) _
  refine ax_if_eq rfl (fun c18 => ?_) (fun c18 => False.elim (by revert c18; decide))
  refine ax_s (pc' := 36) (st' := [.int 0]) rfl rfl rfl rfl ?_
  refine ax_rb (b := false) rfl rfl ?_
  exact k1
theorem kt_isSuch_3_5 {d : Nat} {X : Nat × (Nat → Int32)} {S : Nat → Nat → Int32} {L : Nat → Int64} {Q : Option Value → am_H → Prop}  (k1 : Q (some (.int 0)) (am_hh X S L)) : am_mt (d + 1) 134 [.int 3, .int 5] (am_hh X S L) Q := by
  refine ax_in (ls := [some (.int 3), some (.int 5), none, none]) rfl ?_
  refine ax_s (pc' := 1) (st' := [.int 3]) rfl rfl rfl rfl ?_
  refine ax_s (pc' := 2) (ls' := [some (.int 3), some (.int 5), some (.int 3), none]) (st' := []) rfl rfl rfl rfl ?_
  refine ax_s (pc' := 3) (st' := [.int 0]) rfl rfl rfl rfl ?_
  refine ax_s (pc' := 4) (ls' := [some (.int 3), some (.int 5), some (.int 3), some (.int 0)]) (st' := []) rfl rfl rfl rfl ?_
  refine ax_s (pc' := 5) (st' := [.int 0]) rfl rfl rfl rfl ?_
  refine ax_s (pc' := 6) (st' := [.int 5, .int 0]) rfl rfl rfl rfl ?_
  refine ax_cmp_gt rfl (fun c1 => False.elim (by revert c1; decide)) (fun c1 => ?_)
  refine ax_s (pc' := 10) (st' := [.int 3]) rfl rfl rfl rfl ?_
  refine ax_call (vs := [.int 3]) (rr := []) rfl rfl rfl ?_
  refine ax_in (ls := [some (.int 3)]) rfl ?_
  refine ax_s (pc' := 1) (st' := [.int 3]) rfl rfl rfl rfl ?_
  refine ax_if_lt rfl (fun c2 => False.elim (by revert c2; decide)) (fun c2 => ?_)
  refine ax_s (pc' := 5) (st' := [.int 3]) rfl rfl rfl rfl ?_
  refine ax_s (pc' := 6) (st' := [.int 5, .int 3]) rfl rfl rfl rfl ?_
  refine ax_cmp_gt rfl (fun c3 => False.elim (by revert c3; decide)) (fun c3 => ?_)
  refine ax_s (pc' := 10) (st' := [.int 1]) rfl rfl rfl rfl ?_
  refine ax_s (pc' := 14) (st' := [.int 1]) rfl rfl rfl rfl ?_
  refine ax_rb (b := true) rfl rfl ?_
  show am_ex (d + 1) 134 13 [some (.int 3), some (.int 5), some (.int 3), some (.int 0)] [.int 1] (am_hh X S L) _
  refine ax_if_eq rfl (fun c4 => False.elim (by revert c4; decide)) (fun c4 => ?_)
  refine ax_s (pc' := 17) (st' := [.int 3]) rfl rfl rfl rfl ?_
  refine ax_s (pc' := 18) (st' := [.int 5, .int 3]) rfl rfl rfl rfl ?_
  refine ax_cmp_ne rfl (fun c5 => ?_) (fun c5 => False.elim (by revert c5; decide))
  refine ax_s (pc' := 26) (st' := [.ref 2]) rfl rfl rfl rfl ?_
  refine ax_s (pc' := 27) (st' := [.int 3, .ref 2]) rfl rfl rfl rfl ?_
  refine ax_ald (j := 3) (v := 1) rfl (hh_s2 _ _ _) rfl rfl (by decide) (by decide) rfl ?_
  refine ax_s (pc' := 29) (ls' := [some (.int 3), some (.int 5), some (.int 1), some (.int 0)]) (st' := []) rfl rfl rfl rfl ?_
  refine ax_s (pc' := 32) (ls' := [some (.int 3), some (.int 5), some (.int 1), some (.int 1)]) (st' := []) rfl rfl rfl rfl ?_
  refine ax_s (pc' := 4) (st' := []) rfl rfl rfl rfl ?_
  refine ax_s (pc' := 5) (st' := [.int 1]) rfl rfl rfl rfl ?_
  refine ax_s (pc' := 6) (st' := [.int 5, .int 1]) rfl rfl rfl rfl ?_
  refine ax_cmp_gt rfl (fun c6 => False.elim (by revert c6; decide)) (fun c6 => ?_)
  refine ax_s (pc' := 10) (st' := [.int 1]) rfl rfl rfl rfl ?_
  refine ax_call (vs := [.int 1]) (rr := []) rfl rfl rfl ?_
  refine ax_in (ls := [some (.int 1)]) rfl ?_
  refine ax_s (pc' := 1) (st' := [.int 1]) rfl rfl rfl rfl ?_
  refine ax_if_lt rfl (fun c7 => False.elim (by revert c7; decide)) (fun c7 => ?_)
  refine ax_s (pc' := 5) (st' := [.int 1]) rfl rfl rfl rfl ?_
  refine ax_s (pc' := 6) (st' := [.int 5, .int 1]) rfl rfl rfl rfl ?_
  refine ax_cmp_gt rfl (fun c8 => False.elim (by revert c8; decide)) (fun c8 => ?_)
  refine ax_s (pc' := 10) (st' := [.int 1]) rfl rfl rfl rfl ?_
  refine ax_s (pc' := 14) (st' := [.int 1]) rfl rfl rfl rfl ?_
  refine ax_rb (b := true) rfl rfl ?_
  show am_ex (d + 1) 134 13 [some (.int 3), some (.int 5), some (.int 1), some (.int 1)] [.int 1] (am_hh X S L) _
  refine ax_if_eq rfl (fun c9 => False.elim (by revert c9; decide)) (fun c9 => ?_)
  refine ax_s (pc' := 17) (st' := [.int 1]) rfl rfl rfl rfl ?_
  refine ax_s (pc' := 18) (st' := [.int 5, .int 1]) rfl rfl rfl rfl ?_
  refine ax_cmp_ne rfl (fun c10 => ?_) (fun c10 => False.elim (by revert c10; decide))
  refine ax_s (pc' := 26) (st' := [.ref 2]) rfl rfl rfl rfl ?_
  refine ax_s (pc' := 27) (st' := [.int 1, .ref 2]) rfl rfl rfl rfl ?_
  refine ax_ald (j := 1) (v := 0) rfl (hh_s2 _ _ _) rfl rfl (by decide) (by decide) rfl ?_
  refine ax_s (pc' := 29) (ls' := [some (.int 3), some (.int 5), some (.int 0), some (.int 1)]) (st' := []) rfl rfl rfl rfl ?_
  refine ax_s (pc' := 32) (ls' := [some (.int 3), some (.int 5), some (.int 0), some (.int 2)]) (st' := []) rfl rfl rfl rfl ?_
  refine ax_s (pc' := 4) (st' := []) rfl rfl rfl rfl ?_
  refine ax_s (pc' := 5) (st' := [.int 2]) rfl rfl rfl rfl ?_
  refine ax_s (pc' := 6) (st' := [.int 5, .int 2]) rfl rfl rfl rfl ?_
  refine ax_cmp_gt rfl (fun c11 => False.elim (by revert c11; decide)) (fun c11 => ?_)
  refine ax_s (pc' := 10) (st' := [.int 0]) rfl rfl rfl rfl ?_
  refine ax_call (vs := [.int 0]) (rr := []) rfl rfl rfl ?_
  refine ax_in (ls := [some (.int 0)]) rfl ?_
  refine ax_s (pc' := 1) (st' := [.int 0]) rfl rfl rfl rfl ?_
  refine ax_if_lt rfl (fun c12 => False.elim (by revert c12; decide)) (fun c12 => ?_)
  refine ax_s (pc' := 5) (st' := [.int 0]) rfl rfl rfl rfl ?_
  refine ax_s (pc' := 6) (st' := [.int 5, .int 0]) rfl rfl rfl rfl ?_
  refine ax_cmp_gt rfl (fun c13 => False.elim (by revert c13; decide)) (fun c13 => ?_)
  refine ax_s (pc' := 10) (st' := [.int 1]) rfl rfl rfl rfl ?_
  refine ax_s (pc' := 14) (st' := [.int 1]) rfl rfl rfl rfl ?_
  refine ax_rb (b := true) rfl rfl ?_
  show am_ex (d + 1) 134 13 [some (.int 3), some (.int 5), some (.int 0), some (.int 2)] [.int 1] (am_hh X S L) _
  refine ax_if_eq rfl (fun c14 => False.elim (by revert c14; decide)) (fun c14 => ?_)
  refine ax_s (pc' := 17) (st' := [.int 0]) rfl rfl rfl rfl ?_
  refine ax_s (pc' := 18) (st' := [.int 5, .int 0]) rfl rfl rfl rfl ?_
  refine ax_cmp_ne rfl (fun c15 => ?_) (fun c15 => False.elim (by revert c15; decide))
  refine ax_s (pc' := 26) (st' := [.ref 2]) rfl rfl rfl rfl ?_
  refine ax_s (pc' := 27) (st' := [.int 0, .ref 2]) rfl rfl rfl rfl ?_
  refine ax_ald (j := 0) (v := (-1000000)) rfl (hh_s2 _ _ _) rfl rfl (by decide) (by decide) rfl ?_
  refine ax_s (pc' := 29) (ls' := [some (.int 3), some (.int 5), some (.int (-1000000)), some (.int 2)]) (st' := []) rfl rfl rfl rfl ?_
  refine ax_s (pc' := 32) (ls' := [some (.int 3), some (.int 5), some (.int (-1000000)), some (.int 3)]) (st' := []) rfl rfl rfl rfl ?_
  refine ax_s (pc' := 4) (st' := []) rfl rfl rfl rfl ?_
  refine ax_s (pc' := 5) (st' := [.int 3]) rfl rfl rfl rfl ?_
  refine ax_s (pc' := 6) (st' := [.int 5, .int 3]) rfl rfl rfl rfl ?_
  refine ax_cmp_gt rfl (fun c16 => False.elim (by revert c16; decide)) (fun c16 => ?_)
  refine ax_s (pc' := 10) (st' := [.int (-1000000)]) rfl rfl rfl rfl ?_
  refine ax_call (vs := [.int (-1000000)]) (rr := []) rfl rfl rfl ?_
  refine ax_in (ls := [some (.int (-1000000))]) rfl ?_
  refine ax_s (pc' := 1) (st' := [.int (-1000000)]) rfl rfl rfl rfl ?_
  refine ax_if_lt rfl (fun c17 => ?_) (fun c17 => False.elim (by revert c17; decide))
  refine ax_s (pc' := 14) (st' := [.int 0]) rfl rfl rfl rfl ?_
  refine ax_rb (b := false) rfl rfl ?_
  show am_ex (d + 1) 134 13 [some (.int 3), some (.int 5), some (.int (-1000000)), some (.int 3)] [.int 0] (am_hh X S L) _
  refine ax_if_eq rfl (fun c18 => ?_) (fun c18 => False.elim (by revert c18; decide))
  refine ax_s (pc' := 36) (st' := [.int 0]) rfl rfl rfl rfl ?_
  refine ax_rb (b := false) rfl rfl ?_
  exact k1
theorem kt_isSuch_4_0 {d : Nat} {X : Nat × (Nat → Int32)} {S : Nat → Nat → Int32} {L : Nat → Int64} {Q : Option Value → am_H → Prop}  (k1 : Q (some (.int 1)) (am_hh X S L)) : am_mt (d + 1) 134 [.int 4, .int 0] (am_hh X S L) Q := by
  refine ax_in (ls := [some (.int 4), some (.int 0), none, none]) rfl ?_
  refine ax_s (pc' := 1) (st' := [.int 4]) rfl rfl rfl rfl ?_
  refine ax_s (pc' := 2) (ls' := [some (.int 4), some (.int 0), some (.int 4), none]) (st' := []) rfl rfl rfl rfl ?_
  refine ax_s (pc' := 3) (st' := [.int 0]) rfl rfl rfl rfl ?_
  refine ax_s (pc' := 4) (ls' := [some (.int 4), some (.int 0), some (.int 4), some (.int 0)]) (st' := []) rfl rfl rfl rfl ?_
  refine ax_s (pc' := 5) (st' := [.int 0]) rfl rfl rfl rfl ?_
  refine ax_s (pc' := 6) (st' := [.int 5, .int 0]) rfl rfl rfl rfl ?_
  refine ax_cmp_gt rfl (fun c1 => False.elim (by revert c1; decide)) (fun c1 => ?_)
  refine ax_s (pc' := 10) (st' := [.int 4]) rfl rfl rfl rfl ?_
  refine ax_call (vs := [.int 4]) (rr := []) rfl rfl rfl ?_
  refine ax_in (ls := [some (.int 4)]) rfl ?_
  refine ax_s (pc' := 1) (st' := [.int 4]) rfl rfl rfl rfl ?_
  refine ax_if_lt rfl (fun c2 => False.elim (by revert c2; decide)) (fun c2 => ?_)
  refine ax_s (pc' := 5) (st' := [.int 4]) rfl rfl rfl rfl ?_
  refine ax_s (pc' := 6) (st' := [.int 5, .int 4]) rfl rfl rfl rfl ?_
  refine ax_cmp_gt rfl (fun c3 => False.elim (by revert c3; decide)) (fun c3 => ?_)
  refine ax_s (pc' := 10) (st' := [.int 1]) rfl rfl rfl rfl ?_
  refine ax_s (pc' := 14) (st' := [.int 1]) rfl rfl rfl rfl ?_
  refine ax_rb (b := true) rfl rfl ?_
  show am_ex (d + 1) 134 13 [some (.int 4), some (.int 0), some (.int 4), some (.int 0)] [.int 1] (am_hh X S L) _
  refine ax_if_eq rfl (fun c4 => False.elim (by revert c4; decide)) (fun c4 => ?_)
  refine ax_s (pc' := 17) (st' := [.int 4]) rfl rfl rfl rfl ?_
  refine ax_s (pc' := 18) (st' := [.int 0, .int 4]) rfl rfl rfl rfl ?_
  refine ax_cmp_ne rfl (fun c5 => ?_) (fun c5 => False.elim (by revert c5; decide))
  refine ax_s (pc' := 26) (st' := [.ref 2]) rfl rfl rfl rfl ?_
  refine ax_s (pc' := 27) (st' := [.int 4, .ref 2]) rfl rfl rfl rfl ?_
  refine ax_ald (j := 4) (v := 0) rfl (hh_s2 _ _ _) rfl rfl (by decide) (by decide) rfl ?_
  refine ax_s (pc' := 29) (ls' := [some (.int 4), some (.int 0), some (.int 0), some (.int 0)]) (st' := []) rfl rfl rfl rfl ?_
  refine ax_s (pc' := 32) (ls' := [some (.int 4), some (.int 0), some (.int 0), some (.int 1)]) (st' := []) rfl rfl rfl rfl ?_
  refine ax_s (pc' := 4) (st' := []) rfl rfl rfl rfl ?_
  refine ax_s (pc' := 5) (st' := [.int 1]) rfl rfl rfl rfl ?_
  refine ax_s (pc' := 6) (st' := [.int 5, .int 1]) rfl rfl rfl rfl ?_
  refine ax_cmp_gt rfl (fun c6 => False.elim (by revert c6; decide)) (fun c6 => ?_)
  refine ax_s (pc' := 10) (st' := [.int 0]) rfl rfl rfl rfl ?_
  refine ax_call (vs := [.int 0]) (rr := []) rfl rfl rfl ?_
  refine ax_in (ls := [some (.int 0)]) rfl ?_
  refine ax_s (pc' := 1) (st' := [.int 0]) rfl rfl rfl rfl ?_
  refine ax_if_lt rfl (fun c7 => False.elim (by revert c7; decide)) (fun c7 => ?_)
  refine ax_s (pc' := 5) (st' := [.int 0]) rfl rfl rfl rfl ?_
  refine ax_s (pc' := 6) (st' := [.int 5, .int 0]) rfl rfl rfl rfl ?_
  refine ax_cmp_gt rfl (fun c8 => False.elim (by revert c8; decide)) (fun c8 => ?_)
  refine ax_s (pc' := 10) (st' := [.int 1]) rfl rfl rfl rfl ?_
  refine ax_s (pc' := 14) (st' := [.int 1]) rfl rfl rfl rfl ?_
  refine ax_rb (b := true) rfl rfl ?_
  show am_ex (d + 1) 134 13 [some (.int 4), some (.int 0), some (.int 0), some (.int 1)] [.int 1] (am_hh X S L) _
  refine ax_if_eq rfl (fun c9 => False.elim (by revert c9; decide)) (fun c9 => ?_)
  refine ax_s (pc' := 17) (st' := [.int 0]) rfl rfl rfl rfl ?_
  refine ax_s (pc' := 18) (st' := [.int 0, .int 0]) rfl rfl rfl rfl ?_
  refine ax_cmp_ne rfl (fun c10 => False.elim (by revert c10; decide)) (fun c10 => ?_)
  refine ax_s (pc' := 22) (st' := [.int 1]) rfl rfl rfl rfl ?_
  refine ax_rb (b := true) rfl rfl ?_
  exact k1
theorem kt_isSuch_4_1 {d : Nat} {X : Nat × (Nat → Int32)} {S : Nat → Nat → Int32} {L : Nat → Int64} {Q : Option Value → am_H → Prop}  (k1 : Q (some (.int 0)) (am_hh X S L)) : am_mt (d + 1) 134 [.int 4, .int 1] (am_hh X S L) Q := by
  refine ax_in (ls := [some (.int 4), some (.int 1), none, none]) rfl ?_
  refine ax_s (pc' := 1) (st' := [.int 4]) rfl rfl rfl rfl ?_
  refine ax_s (pc' := 2) (ls' := [some (.int 4), some (.int 1), some (.int 4), none]) (st' := []) rfl rfl rfl rfl ?_
  refine ax_s (pc' := 3) (st' := [.int 0]) rfl rfl rfl rfl ?_
  refine ax_s (pc' := 4) (ls' := [some (.int 4), some (.int 1), some (.int 4), some (.int 0)]) (st' := []) rfl rfl rfl rfl ?_
  refine ax_s (pc' := 5) (st' := [.int 0]) rfl rfl rfl rfl ?_
  refine ax_s (pc' := 6) (st' := [.int 5, .int 0]) rfl rfl rfl rfl ?_
  refine ax_cmp_gt rfl (fun c1 => False.elim (by revert c1; decide)) (fun c1 => ?_)
  refine ax_s (pc' := 10) (st' := [.int 4]) rfl rfl rfl rfl ?_
  refine ax_call (vs := [.int 4]) (rr := []) rfl rfl rfl ?_
  refine ax_in (ls := [some (.int 4)]) rfl ?_
  refine ax_s (pc' := 1) (st' := [.int 4]) rfl rfl rfl rfl ?_
  refine ax_if_lt rfl (fun c2 => False.elim (by revert c2; decide)) (fun c2 => ?_)
  refine ax_s (pc' := 5) (st' := [.int 4]) rfl rfl rfl rfl ?_
  refine ax_s (pc' := 6) (st' := [.int 5, .int 4]) rfl rfl rfl rfl ?_
  refine ax_cmp_gt rfl (fun c3 => False.elim (by revert c3; decide)) (fun c3 => ?_)
  refine ax_s (pc' := 10) (st' := [.int 1]) rfl rfl rfl rfl ?_
  refine ax_s (pc' := 14) (st' := [.int 1]) rfl rfl rfl rfl ?_
  refine ax_rb (b := true) rfl rfl ?_
  show am_ex (d + 1) 134 13 [some (.int 4), some (.int 1), some (.int 4), some (.int 0)] [.int 1] (am_hh X S L) _
  refine ax_if_eq rfl (fun c4 => False.elim (by revert c4; decide)) (fun c4 => ?_)
  refine ax_s (pc' := 17) (st' := [.int 4]) rfl rfl rfl rfl ?_
  refine ax_s (pc' := 18) (st' := [.int 1, .int 4]) rfl rfl rfl rfl ?_
  refine ax_cmp_ne rfl (fun c5 => ?_) (fun c5 => False.elim (by revert c5; decide))
  refine ax_s (pc' := 26) (st' := [.ref 2]) rfl rfl rfl rfl ?_
  refine ax_s (pc' := 27) (st' := [.int 4, .ref 2]) rfl rfl rfl rfl ?_
  refine ax_ald (j := 4) (v := 0) rfl (hh_s2 _ _ _) rfl rfl (by decide) (by decide) rfl ?_
  refine ax_s (pc' := 29) (ls' := [some (.int 4), some (.int 1), some (.int 0), some (.int 0)]) (st' := []) rfl rfl rfl rfl ?_
  refine ax_s (pc' := 32) (ls' := [some (.int 4), some (.int 1), some (.int 0), some (.int 1)]) (st' := []) rfl rfl rfl rfl ?_
  refine ax_s (pc' := 4) (st' := []) rfl rfl rfl rfl ?_
  refine ax_s (pc' := 5) (st' := [.int 1]) rfl rfl rfl rfl ?_
  refine ax_s (pc' := 6) (st' := [.int 5, .int 1]) rfl rfl rfl rfl ?_
  refine ax_cmp_gt rfl (fun c6 => False.elim (by revert c6; decide)) (fun c6 => ?_)
  refine ax_s (pc' := 10) (st' := [.int 0]) rfl rfl rfl rfl ?_
  refine ax_call (vs := [.int 0]) (rr := []) rfl rfl rfl ?_
  refine ax_in (ls := [some (.int 0)]) rfl ?_
  refine ax_s (pc' := 1) (st' := [.int 0]) rfl rfl rfl rfl ?_
  refine ax_if_lt rfl (fun c7 => False.elim (by revert c7; decide)) (fun c7 => ?_)
  refine ax_s (pc' := 5) (st' := [.int 0]) rfl rfl rfl rfl ?_
  refine ax_s (pc' := 6) (st' := [.int 5, .int 0]) rfl rfl rfl rfl ?_
  refine ax_cmp_gt rfl (fun c8 => False.elim (by revert c8; decide)) (fun c8 => ?_)
  refine ax_s (pc' := 10) (st' := [.int 1]) rfl rfl rfl rfl ?_
  refine ax_s (pc' := 14) (st' := [.int 1]) rfl rfl rfl rfl ?_
  refine ax_rb (b := true) rfl rfl ?_
  show am_ex (d + 1) 134 13 [some (.int 4), some (.int 1), some (.int 0), some (.int 1)] [.int 1] (am_hh X S L) _
  refine ax_if_eq rfl (fun c9 => False.elim (by revert c9; decide)) (fun c9 => ?_)
  refine ax_s (pc' := 17) (st' := [.int 0]) rfl rfl rfl rfl ?_
  refine ax_s (pc' := 18) (st' := [.int 1, .int 0]) rfl rfl rfl rfl ?_
  refine ax_cmp_ne rfl (fun c10 => ?_) (fun c10 => False.elim (by revert c10; decide))
  refine ax_s (pc' := 26) (st' := [.ref 2]) rfl rfl rfl rfl ?_
  refine ax_s (pc' := 27) (st' := [.int 0, .ref 2]) rfl rfl rfl rfl ?_
  refine ax_ald (j := 0) (v := (-1000000)) rfl (hh_s2 _ _ _) rfl rfl (by decide) (by decide) rfl ?_
  refine ax_s (pc' := 29) (ls' := [some (.int 4), some (.int 1), some (.int (-1000000)), some (.int 1)]) (st' := []) rfl rfl rfl rfl ?_
  refine ax_s (pc' := 32) (ls' := [some (.int 4), some (.int 1), some (.int (-1000000)), some (.int 2)]) (st' := []) rfl rfl rfl rfl ?_
  refine ax_s (pc' := 4) (st' := []) rfl rfl rfl rfl ?_
  refine ax_s (pc' := 5) (st' := [.int 2]) rfl rfl rfl rfl ?_
  refine ax_s (pc' := 6) (st' := [.int 5, .int 2]) rfl rfl rfl rfl ?_
  refine ax_cmp_gt rfl (fun c11 => False.elim (by revert c11; decide)) (fun c11 => ?_)
  refine ax_s (pc' := 10) (st' := [.int (-1000000)]) rfl rfl rfl rfl ?_
  refine ax_call (vs := [.int (-1000000)]) (rr := []) rfl rfl rfl ?_
  refine ax_in (ls := [some (.int (-1000000))]) rfl ?_
  refine ax_s (pc' := 1) (st' := [.int (-1000000)]) rfl rfl rfl rfl ?_
  refine ax_if_lt rfl (fun c12 => ?_) (fun c12 => False.elim (by revert c12; decide))
  refine ax_s (pc' := 14) (st' := [.int 0]) rfl rfl rfl rfl ?_
  refine ax_rb (b := false) rfl rfl ?_
  show am_ex (d + 1) 134 13 [some (.int 4), some (.int 1), some (.int (-1000000)), some (.int 2)] [.int 0] (am_hh X S L) _
  refine ax_if_eq rfl (fun c13 => ?_) (fun c13 => False.elim (by revert c13; decide))
  refine ax_s (pc' := 36) (st' := [.int 0]) rfl rfl rfl rfl ?_
  refine ax_rb (b := false) rfl rfl ?_
  exact k1
theorem kt_isSuch_4_2 {d : Nat} {X : Nat × (Nat → Int32)} {S : Nat → Nat → Int32} {L : Nat → Int64} {Q : Option Value → am_H → Prop}  (k1 : Q (some (.int 0)) (am_hh X S L)) : am_mt (d + 1) 134 [.int 4, .int 2] (am_hh X S L) Q := by
  refine ax_in (ls := [some (.int 4), some (.int 2), none, none]) rfl ?_
  refine ax_s (pc' := 1) (st' := [.int 4]) rfl rfl rfl rfl ?_
  refine ax_s (pc' := 2) (ls' := [some (.int 4), some (.int 2), some (.int 4), none]) (st' := []) rfl rfl rfl rfl ?_
  refine ax_s (pc' := 3) (st' := [.int 0]) rfl rfl rfl rfl ?_
  refine ax_s (pc' := 4) (ls' := [some (.int 4), some (.int 2), some (.int 4), some (.int 0)]) (st' := []) rfl rfl rfl rfl ?_
  refine ax_s (pc' := 5) (st' := [.int 0]) rfl rfl rfl rfl ?_
  refine ax_s (pc' := 6) (st' := [.int 5, .int 0]) rfl rfl rfl rfl ?_
  refine ax_cmp_gt rfl (fun c1 => False.elim (by revert c1; decide)) (fun c1 => ?_)
  refine ax_s (pc' := 10) (st' := [.int 4]) rfl rfl rfl rfl ?_
  refine ax_call (vs := [.int 4]) (rr := []) rfl rfl rfl ?_
  refine ax_in (ls := [some (.int 4)]) rfl ?_
  refine ax_s (pc' := 1) (st' := [.int 4]) rfl rfl rfl rfl ?_
  refine ax_if_lt rfl (fun c2 => False.elim (by revert c2; decide)) (fun c2 => ?_)
  refine ax_s (pc' := 5) (st' := [.int 4]) rfl rfl rfl rfl ?_
  refine ax_s (pc' := 6) (st' := [.int 5, .int 4]) rfl rfl rfl rfl ?_
  refine ax_cmp_gt rfl (fun c3 => False.elim (by revert c3; decide)) (fun c3 => ?_)
  refine ax_s (pc' := 10) (st' := [.int 1]) rfl rfl rfl rfl ?_
  refine ax_s (pc' := 14) (st' := [.int 1]) rfl rfl rfl rfl ?_
  refine ax_rb (b := true) rfl rfl ?_
  show am_ex (d + 1) 134 13 [some (.int 4), some (.int 2), some (.int 4), some (.int 0)] [.int 1] (am_hh X S L) _
  refine ax_if_eq rfl (fun c4 => False.elim (by revert c4; decide)) (fun c4 => ?_)
  refine ax_s (pc' := 17) (st' := [.int 4]) rfl rfl rfl rfl ?_
  refine ax_s (pc' := 18) (st' := [.int 2, .int 4]) rfl rfl rfl rfl ?_
  refine ax_cmp_ne rfl (fun c5 => ?_) (fun c5 => False.elim (by revert c5; decide))
  refine ax_s (pc' := 26) (st' := [.ref 2]) rfl rfl rfl rfl ?_
  refine ax_s (pc' := 27) (st' := [.int 4, .ref 2]) rfl rfl rfl rfl ?_
  refine ax_ald (j := 4) (v := 0) rfl (hh_s2 _ _ _) rfl rfl (by decide) (by decide) rfl ?_
  refine ax_s (pc' := 29) (ls' := [some (.int 4), some (.int 2), some (.int 0), some (.int 0)]) (st' := []) rfl rfl rfl rfl ?_
  refine ax_s (pc' := 32) (ls' := [some (.int 4), some (.int 2), some (.int 0), some (.int 1)]) (st' := []) rfl rfl rfl rfl ?_
  refine ax_s (pc' := 4) (st' := []) rfl rfl rfl rfl ?_
  refine ax_s (pc' := 5) (st' := [.int 1]) rfl rfl rfl rfl ?_
  refine ax_s (pc' := 6) (st' := [.int 5, .int 1]) rfl rfl rfl rfl ?_
  refine ax_cmp_gt rfl (fun c6 => False.elim (by revert c6; decide)) (fun c6 => ?_)
  refine ax_s (pc' := 10) (st' := [.int 0]) rfl rfl rfl rfl ?_
  refine ax_call (vs := [.int 0]) (rr := []) rfl rfl rfl ?_
  refine ax_in (ls := [some (.int 0)]) rfl ?_
  refine ax_s (pc' := 1) (st' := [.int 0]) rfl rfl rfl rfl ?_
  refine ax_if_lt rfl (fun c7 => False.elim (by revert c7; decide)) (fun c7 => ?_)
  refine ax_s (pc' := 5) (st' := [.int 0]) rfl rfl rfl rfl ?_
  refine ax_s (pc' := 6) (st' := [.int 5, .int 0]) rfl rfl rfl rfl ?_
  refine ax_cmp_gt rfl (fun c8 => False.elim (by revert c8; decide)) (fun c8 => ?_)
  refine ax_s (pc' := 10) (st' := [.int 1]) rfl rfl rfl rfl ?_
  refine ax_s (pc' := 14) (st' := [.int 1]) rfl rfl rfl rfl ?_
  refine ax_rb (b := true) rfl rfl ?_
  show am_ex (d + 1) 134 13 [some (.int 4), some (.int 2), some (.int 0), some (.int 1)] [.int 1] (am_hh X S L) _
  refine ax_if_eq rfl (fun c9 => False.elim (by revert c9; decide)) (fun c9 => ?_)
  refine ax_s (pc' := 17) (st' := [.int 0]) rfl rfl rfl rfl ?_
  refine ax_s (pc' := 18) (st' := [.int 2, .int 0]) rfl rfl rfl rfl ?_
  refine ax_cmp_ne rfl (fun c10 => ?_) (fun c10 => False.elim (by revert c10; decide))
  refine ax_s (pc' := 26) (st' := [.ref 2]) rfl rfl rfl rfl ?_
  refine ax_s (pc' := 27) (st' := [.int 0, .ref 2]) rfl rfl rfl rfl ?_
  refine ax_ald (j := 0) (v := (-1000000)) rfl (hh_s2 _ _ _) rfl rfl (by decide) (by decide) rfl ?_
  refine ax_s (pc' := 29) (ls' := [some (.int 4), some (.int 2), some (.int (-1000000)), some (.int 1)]) (st' := []) rfl rfl rfl rfl ?_
  refine ax_s (pc' := 32) (ls' := [some (.int 4), some (.int 2), some (.int (-1000000)), some (.int 2)]) (st' := []) rfl rfl rfl rfl ?_
  refine ax_s (pc' := 4) (st' := []) rfl rfl rfl rfl ?_
  refine ax_s (pc' := 5) (st' := [.int 2]) rfl rfl rfl rfl ?_
  refine ax_s (pc' := 6) (st' := [.int 5, .int 2]) rfl rfl rfl rfl ?_
  refine ax_cmp_gt rfl (fun c11 => False.elim (by revert c11; decide)) (fun c11 => ?_)
  refine ax_s (pc' := 10) (st' := [.int (-1000000)]) rfl rfl rfl rfl ?_
  refine ax_call (vs := [.int (-1000000)]) (rr := []) rfl rfl rfl ?_
  refine ax_in (ls := [some (.int (-1000000))]) rfl ?_
  refine ax_s (pc' := 1) (st' := [.int (-1000000)]) rfl rfl rfl rfl ?_
  refine ax_if_lt rfl (fun c12 => ?_) (fun c12 => False.elim (by revert c12; decide))
  refine ax_s (pc' := 14) (st' := [.int 0]) rfl rfl rfl rfl ?_
  refine ax_rb (b := false) rfl rfl ?_
  show am_ex (d + 1) 134 13 [some (.int 4), some (.int 2), some (.int (-1000000)), some (.int 2)] [.int 0] (am_hh X S L) _
  refine ax_if_eq rfl (fun c13 => ?_) (fun c13 => False.elim (by revert c13; decide))
  refine ax_s (pc' := 36) (st' := [.int 0]) rfl rfl rfl rfl ?_
  refine ax_rb (b := false) rfl rfl ?_
  exact k1
theorem kt_isSuch_4_3 {d : Nat} {X : Nat × (Nat → Int32)} {S : Nat → Nat → Int32} {L : Nat → Int64} {Q : Option Value → am_H → Prop}  (k1 : Q (some (.int 0)) (am_hh X S L)) : am_mt (d + 1) 134 [.int 4, .int 3] (am_hh X S L) Q := by
  refine ax_in (ls := [some (.int 4), some (.int 3), none, none]) rfl ?_
  refine ax_s (pc' := 1) (st' := [.int 4]) rfl rfl rfl rfl ?_
  refine ax_s (pc' := 2) (ls' := [some (.int 4), some (.int 3), some (.int 4), none]) (st' := []) rfl rfl rfl rfl ?_
  refine ax_s (pc' := 3) (st' := [.int 0]) rfl rfl rfl rfl ?_
  refine ax_s (pc' := 4) (ls' := [some (.int 4), some (.int 3), some (.int 4), some (.int 0)]) (st' := []) rfl rfl rfl rfl ?_
  refine ax_s (pc' := 5) (st' := [.int 0]) rfl rfl rfl rfl ?_
  refine ax_s (pc' := 6) (st' := [.int 5, .int 0]) rfl rfl rfl rfl ?_
  refine ax_cmp_gt rfl (fun c1 => False.elim (by revert c1; decide)) (fun c1 => ?_)
  refine ax_s (pc' := 10) (st' := [.int 4]) rfl rfl rfl rfl ?_
  refine ax_call (vs := [.int 4]) (rr := []) rfl rfl rfl ?_
  refine ax_in (ls := [some (.int 4)]) rfl ?_
  refine ax_s (pc' := 1) (st' := [.int 4]) rfl rfl rfl rfl ?_
  refine ax_if_lt rfl (fun c2 => False.elim (by revert c2; decide)) (fun c2 => ?_)
  refine ax_s (pc' := 5) (st' := [.int 4]) rfl rfl rfl rfl ?_
  refine ax_s (pc' := 6) (st' := [.int 5, .int 4]) rfl rfl rfl rfl ?_
  refine ax_cmp_gt rfl (fun c3 => False.elim (by revert c3; decide)) (fun c3 => ?_)
  refine ax_s (pc' := 10) (st' := [.int 1]) rfl rfl rfl rfl ?_
  refine ax_s (pc' := 14) (st' := [.int 1]) rfl rfl rfl rfl ?_
  refine ax_rb (b := true) rfl rfl ?_
  show am_ex (d + 1) 134 13 [some (.int 4), some (.int 3), some (.int 4), some (.int 0)] [.int 1] (am_hh X S L) _
  refine ax_if_eq rfl (fun c4 => False.elim (by revert c4; decide)) (fun c4 => ?_)
  refine ax_s (pc' := 17) (st' := [.int 4]) rfl rfl rfl rfl ?_
  refine ax_s (pc' := 18) (st' := [.int 3, .int 4]) rfl rfl rfl rfl ?_
  refine ax_cmp_ne rfl (fun c5 => ?_) (fun c5 => False.elim (by revert c5; decide))
  refine ax_s (pc' := 26) (st' := [.ref 2]) rfl rfl rfl rfl ?_
  refine ax_s (pc' := 27) (st' := [.int 4, .ref 2]) rfl rfl rfl rfl ?_
  refine ax_ald (j := 4) (v := 0) rfl (hh_s2 _ _ _) rfl rfl (by decide) (by decide) rfl ?_
  refine ax_s (pc' := 29) (ls' := [some (.int 4), some (.int 3), some (.int 0), some (.int 0)]) (st' := []) rfl rfl rfl rfl ?_
  refine ax_s (pc' := 32) (ls' := [some (.int 4), some (.int 3), some (.int 0), some (.int 1)]) (st' := []) rfl rfl rfl rfl ?_
  refine ax_s (pc' := 4) (st' := []) rfl rfl rfl rfl ?_
  refine ax_s (pc' := 5) (st' := [.int 1]) rfl rfl rfl rfl ?_
  refine ax_s (pc' := 6) (st' := [.int 5, .int 1]) rfl rfl rfl rfl ?_
  refine ax_cmp_gt rfl (fun c6 => False.elim (by revert c6; decide)) (fun c6 => ?_)
  refine ax_s (pc' := 10) (st' := [.int 0]) rfl rfl rfl rfl ?_
  refine ax_call (vs := [.int 0]) (rr := []) rfl rfl rfl ?_
  refine ax_in (ls := [some (.int 0)]) rfl ?_
  refine ax_s (pc' := 1) (st' := [.int 0]) rfl rfl rfl rfl ?_
  refine ax_if_lt rfl (fun c7 => False.elim (by revert c7; decide)) (fun c7 => ?_)
  refine ax_s (pc' := 5) (st' := [.int 0]) rfl rfl rfl rfl ?_
  refine ax_s (pc' := 6) (st' := [.int 5, .int 0]) rfl rfl rfl rfl ?_
  refine ax_cmp_gt rfl (fun c8 => False.elim (by revert c8; decide)) (fun c8 => ?_)
  refine ax_s (pc' := 10) (st' := [.int 1]) rfl rfl rfl rfl ?_
  refine ax_s (pc' := 14) (st' := [.int 1]) rfl rfl rfl rfl ?_
  refine ax_rb (b := true) rfl rfl ?_
  show am_ex (d + 1) 134 13 [some (.int 4), some (.int 3), some (.int 0), some (.int 1)] [.int 1] (am_hh X S L) _
  refine ax_if_eq rfl (fun c9 => False.elim (by revert c9; decide)) (fun c9 => ?_)
  refine ax_s (pc' := 17) (st' := [.int 0]) rfl rfl rfl rfl ?_
  refine ax_s (pc' := 18) (st' := [.int 3, .int 0]) rfl rfl rfl rfl ?_
  refine ax_cmp_ne rfl (fun c10 => ?_) (fun c10 => False.elim (by revert c10; decide))
  refine ax_s (pc' := 26) (st' := [.ref 2]) rfl rfl rfl rfl ?_
  refine ax_s (pc' := 27) (st' := [.int 0, .ref 2]) rfl rfl rfl rfl ?_
  refine ax_ald (j := 0) (v := (-1000000)) rfl (hh_s2 _ _ _) rfl rfl (by decide) (by decide) rfl ?_
  refine ax_s (pc' := 29) (ls' := [some (.int 4), some (.int 3), some (.int (-1000000)), some (.int 1)]) (st' := []) rfl rfl rfl rfl ?_
  refine ax_s (pc' := 32) (ls' := [some (.int 4), some (.int 3), some (.int (-1000000)), some (.int 2)]) (st' := []) rfl rfl rfl rfl ?_
  refine ax_s (pc' := 4) (st' := []) rfl rfl rfl rfl ?_
  refine ax_s (pc' := 5) (st' := [.int 2]) rfl rfl rfl rfl ?_
  refine ax_s (pc' := 6) (st' := [.int 5, .int 2]) rfl rfl rfl rfl ?_
  refine ax_cmp_gt rfl (fun c11 => False.elim (by revert c11; decide)) (fun c11 => ?_)
  refine ax_s (pc' := 10) (st' := [.int (-1000000)]) rfl rfl rfl rfl ?_
  refine ax_call (vs := [.int (-1000000)]) (rr := []) rfl rfl rfl ?_
  refine ax_in (ls := [some (.int (-1000000))]) rfl ?_
  refine ax_s (pc' := 1) (st' := [.int (-1000000)]) rfl rfl rfl rfl ?_
  refine ax_if_lt rfl (fun c12 => ?_) (fun c12 => False.elim (by revert c12; decide))
  refine ax_s (pc' := 14) (st' := [.int 0]) rfl rfl rfl rfl ?_
  refine ax_rb (b := false) rfl rfl ?_
  show am_ex (d + 1) 134 13 [some (.int 4), some (.int 3), some (.int (-1000000)), some (.int 2)] [.int 0] (am_hh X S L) _
  refine ax_if_eq rfl (fun c13 => ?_) (fun c13 => False.elim (by revert c13; decide))
  refine ax_s (pc' := 36) (st' := [.int 0]) rfl rfl rfl rfl ?_
  refine ax_rb (b := false) rfl rfl ?_
  exact k1
theorem kt_isSuch_4_4 {d : Nat} {X : Nat × (Nat → Int32)} {S : Nat → Nat → Int32} {L : Nat → Int64} {Q : Option Value → am_H → Prop}  (k1 : Q (some (.int 1)) (am_hh X S L)) : am_mt (d + 1) 134 [.int 4, .int 4] (am_hh X S L) Q := by
  refine ax_in (ls := [some (.int 4), some (.int 4), none, none]) rfl ?_
  refine ax_s (pc' := 1) (st' := [.int 4]) rfl rfl rfl rfl ?_
  refine ax_s (pc' := 2) (ls' := [some (.int 4), some (.int 4), some (.int 4), none]) (st' := []) rfl rfl rfl rfl ?_
  refine ax_s (pc' := 3) (st' := [.int 0]) rfl rfl rfl rfl ?_
  refine ax_s (pc' := 4) (ls' := [some (.int 4), some (.int 4), some (.int 4), some (.int 0)]) (st' := []) rfl rfl rfl rfl ?_
  refine ax_s (pc' := 5) (st' := [.int 0]) rfl rfl rfl rfl ?_
  refine ax_s (pc' := 6) (st' := [.int 5, .int 0]) rfl rfl rfl rfl ?_
  refine ax_cmp_gt rfl (fun c1 => False.elim (by revert c1; decide)) (fun c1 => ?_)
  refine ax_s (pc' := 10) (st' := [.int 4]) rfl rfl rfl rfl ?_
  refine ax_call (vs := [.int 4]) (rr := []) rfl rfl rfl ?_
  refine ax_in (ls := [some (.int 4)]) rfl ?_
  refine ax_s (pc' := 1) (st' := [.int 4]) rfl rfl rfl rfl ?_
  refine ax_if_lt rfl (fun c2 => False.elim (by revert c2; decide)) (fun c2 => ?_)
  refine ax_s (pc' := 5) (st' := [.int 4]) rfl rfl rfl rfl ?_
  refine ax_s (pc' := 6) (st' := [.int 5, .int 4]) rfl rfl rfl rfl ?_
  refine ax_cmp_gt rfl (fun c3 => False.elim (by revert c3; decide)) (fun c3 => ?_)
  refine ax_s (pc' := 10) (st' := [.int 1]) rfl rfl rfl rfl ?_
  refine ax_s (pc' := 14) (st' := [.int 1]) rfl rfl rfl rfl ?_
  refine ax_rb (b := true) rfl rfl ?_
  show am_ex (d + 1) 134 13 [some (.int 4), some (.int 4), some (.int 4), some (.int 0)] [.int 1] (am_hh X S L) _
  refine ax_if_eq rfl (fun c4 => False.elim (by revert c4; decide)) (fun c4 => ?_)
  refine ax_s (pc' := 17) (st' := [.int 4]) rfl rfl rfl rfl ?_
  refine ax_s (pc' := 18) (st' := [.int 4, .int 4]) rfl rfl rfl rfl ?_
  refine ax_cmp_ne rfl (fun c5 => False.elim (by revert c5; decide)) (fun c5 => ?_)
  refine ax_s (pc' := 22) (st' := [.int 1]) rfl rfl rfl rfl ?_
  refine ax_rb (b := true) rfl rfl ?_
  exact k1
theorem kt_isSuch_4_5 {d : Nat} {X : Nat × (Nat → Int32)} {S : Nat → Nat → Int32} {L : Nat → Int64} {Q : Option Value → am_H → Prop}  (k1 : Q (some (.int 0)) (am_hh X S L)) : am_mt (d + 1) 134 [.int 4, .int 5] (am_hh X S L) Q := by
  refine ax_in (ls := [some (.int 4), some (.int 5), none, none]) rfl ?_
  refine ax_s (pc' := 1) (st' := [.int 4]) rfl rfl rfl rfl ?_
  refine ax_s (pc' := 2) (ls' := [some (.int 4), some (.int 5), some (.int 4), none]) (st' := []) rfl rfl rfl rfl ?_
  refine ax_s (pc' := 3) (st' := [.int 0]) rfl rfl rfl rfl ?_
  refine ax_s (pc' := 4) (ls' := [some (.int 4), some (.int 5), some (.int 4), some (.int 0)]) (st' := []) rfl rfl rfl rfl ?_
  refine ax_s (pc' := 5) (st' := [.int 0]) rfl rfl rfl rfl ?_
  refine ax_s (pc' := 6) (st' := [.int 5, .int 0]) rfl rfl rfl rfl ?_
  refine ax_cmp_gt rfl (fun c1 => False.elim (by revert c1; decide)) (fun c1 => ?_)
  refine ax_s (pc' := 10) (st' := [.int 4]) rfl rfl rfl rfl ?_
  refine ax_call (vs := [.int 4]) (rr := []) rfl rfl rfl ?_
  refine ax_in (ls := [some (.int 4)]) rfl ?_
  refine ax_s (pc' := 1) (st' := [.int 4]) rfl rfl rfl rfl ?_
  refine ax_if_lt rfl (fun c2 => False.elim (by revert c2; decide)) (fun c2 => ?_)
  refine ax_s (pc' := 5) (st' := [.int 4]) rfl rfl rfl rfl ?_
  refine ax_s (pc' := 6) (st' := [.int 5, .int 4]) rfl rfl rfl rfl ?_
  refine ax_cmp_gt rfl (fun c3 => False.elim (by revert c3; decide)) (fun c3 => ?_)
  refine ax_s (pc' := 10) (st' := [.int 1]) rfl rfl rfl rfl ?_
  refine ax_s (pc' := 14) (st' := [.int 1]) rfl rfl rfl rfl ?_
  refine ax_rb (b := true) rfl rfl ?_
  show am_ex (d + 1) 134 13 [some (.int 4), some (.int 5), some (.int 4), some (.int 0)] [.int 1] (am_hh X S L) _
  refine ax_if_eq rfl (fun c4 => False.elim (by revert c4; decide)) (fun c4 => ?_)
  refine ax_s (pc' := 17) (st' := [.int 4]) rfl rfl rfl rfl ?_
  refine ax_s (pc' := 18) (st' := [.int 5, .int 4]) rfl rfl rfl rfl ?_
  refine ax_cmp_ne rfl (fun c5 => ?_) (fun c5 => False.elim (by revert c5; decide))
  refine ax_s (pc' := 26) (st' := [.ref 2]) rfl rfl rfl rfl ?_
  refine ax_s (pc' := 27) (st' := [.int 4, .ref 2]) rfl rfl rfl rfl ?_
  refine ax_ald (j := 4) (v := 0) rfl (hh_s2 _ _ _) rfl rfl (by decide) (by decide) rfl ?_
  refine ax_s (pc' := 29) (ls' := [some (.int 4), some (.int 5), some (.int 0), some (.int 0)]) (st' := []) rfl rfl rfl rfl ?_
  refine ax_s (pc' := 32) (ls' := [some (.int 4), some (.int 5), some (.int 0), some (.int 1)]) (st' := []) rfl rfl rfl rfl ?_
  refine ax_s (pc' := 4) (st' := []) rfl rfl rfl rfl ?_
  refine ax_s (pc' := 5) (st' := [.int 1]) rfl rfl rfl rfl ?_
  refine ax_s (pc' := 6) (st' := [.int 5, .int 1]) rfl rfl rfl rfl ?_
  refine ax_cmp_gt rfl (fun c6 => False.elim (by revert c6; decide)) (fun c6 => ?_)
  refine ax_s (pc' := 10) (st' := [.int 0]) rfl rfl rfl rfl ?_
  refine ax_call (vs := [.int 0]) (rr := []) rfl rfl rfl ?_
  refine ax_in (ls := [some (.int 0)]) rfl ?_
  refine ax_s (pc' := 1) (st' := [.int 0]) rfl rfl rfl rfl ?_
  refine ax_if_lt rfl (fun c7 => False.elim (by revert c7; decide)) (fun c7 => ?_)
  refine ax_s (pc' := 5) (st' := [.int 0]) rfl rfl rfl rfl ?_
  refine ax_s (pc' := 6) (st' := [.int 5, .int 0]) rfl rfl rfl rfl ?_
  refine ax_cmp_gt rfl (fun c8 => False.elim (by revert c8; decide)) (fun c8 => ?_)
  refine ax_s (pc' := 10) (st' := [.int 1]) rfl rfl rfl rfl ?_
  refine ax_s (pc' := 14) (st' := [.int 1]) rfl rfl rfl rfl ?_
  refine ax_rb (b := true) rfl rfl ?_
  show am_ex (d + 1) 134 13 [some (.int 4), some (.int 5), some (.int 0), some (.int 1)] [.int 1] (am_hh X S L) _
  refine ax_if_eq rfl (fun c9 => False.elim (by revert c9; decide)) (fun c9 => ?_)
  refine ax_s (pc' := 17) (st' := [.int 0]) rfl rfl rfl rfl ?_
  refine ax_s (pc' := 18) (st' := [.int 5, .int 0]) rfl rfl rfl rfl ?_
  refine ax_cmp_ne rfl (fun c10 => ?_) (fun c10 => False.elim (by revert c10; decide))
  refine ax_s (pc' := 26) (st' := [.ref 2]) rfl rfl rfl rfl ?_
  refine ax_s (pc' := 27) (st' := [.int 0, .ref 2]) rfl rfl rfl rfl ?_
  refine ax_ald (j := 0) (v := (-1000000)) rfl (hh_s2 _ _ _) rfl rfl (by decide) (by decide) rfl ?_
  refine ax_s (pc' := 29) (ls' := [some (.int 4), some (.int 5), some (.int (-1000000)), some (.int 1)]) (st' := []) rfl rfl rfl rfl ?_
  refine ax_s (pc' := 32) (ls' := [some (.int 4), some (.int 5), some (.int (-1000000)), some (.int 2)]) (st' := []) rfl rfl rfl rfl ?_
  refine ax_s (pc' := 4) (st' := []) rfl rfl rfl rfl ?_
  refine ax_s (pc' := 5) (st' := [.int 2]) rfl rfl rfl rfl ?_
  refine ax_s (pc' := 6) (st' := [.int 5, .int 2]) rfl rfl rfl rfl ?_
  refine ax_cmp_gt rfl (fun c11 => False.elim (by revert c11; decide)) (fun c11 => ?_)
  refine ax_s (pc' := 10) (st' := [.int (-1000000)]) rfl rfl rfl rfl ?_
  refine ax_call (vs := [.int (-1000000)]) (rr := []) rfl rfl rfl ?_
  refine ax_in (ls := [some (.int (-1000000))]) rfl ?_
  refine ax_s (pc' := 1) (st' := [.int (-1000000)]) rfl rfl rfl rfl ?_
  refine ax_if_lt rfl (fun c12 => ?_) (fun c12 => False.elim (by revert c12; decide))
  refine ax_s (pc' := 14) (st' := [.int 0]) rfl rfl rfl rfl ?_
  refine ax_rb (b := false) rfl rfl ?_
  show am_ex (d + 1) 134 13 [some (.int 4), some (.int 5), some (.int (-1000000)), some (.int 2)] [.int 0] (am_hh X S L) _
  refine ax_if_eq rfl (fun c13 => ?_) (fun c13 => False.elim (by revert c13; decide))
  refine ax_s (pc' := 36) (st' := [.int 0]) rfl rfl rfl rfl ?_
  refine ax_rb (b := false) rfl rfl ?_
  exact k1
theorem kt_isSuch_5_0 {d : Nat} {X : Nat × (Nat → Int32)} {S : Nat → Nat → Int32} {L : Nat → Int64} {Q : Option Value → am_H → Prop}  (k1 : Q (some (.int 1)) (am_hh X S L)) : am_mt (d + 1) 134 [.int 5, .int 0] (am_hh X S L) Q := by
  refine ax_in (ls := [some (.int 5), some (.int 0), none, none]) rfl ?_
  refine ax_s (pc' := 1) (st' := [.int 5]) rfl rfl rfl rfl ?_
  refine ax_s (pc' := 2) (ls' := [some (.int 5), some (.int 0), some (.int 5), none]) (st' := []) rfl rfl rfl rfl ?_
  refine ax_s (pc' := 3) (st' := [.int 0]) rfl rfl rfl rfl ?_
  refine ax_s (pc' := 4) (ls' := [some (.int 5), some (.int 0), some (.int 5), some (.int 0)]) (st' := []) rfl rfl rfl rfl ?_
  refine ax_s (pc' := 5) (st' := [.int 0]) rfl rfl rfl rfl ?_
  refine ax_s (pc' := 6) (st' := [.int 5, .int 0]) rfl rfl rfl rfl ?_
  refine ax_cmp_gt rfl (fun c1 => False.elim (by revert c1; decide)) (fun c1 => ?_)
  refine ax_s (pc' := 10) (st' := [.int 5]) rfl rfl rfl rfl ?_
  refine ax_call (vs := [.int 5]) (rr := []) rfl rfl rfl ?_
  refine ax_in (ls := [some (.int 5)]) rfl ?_
  refine ax_s (pc' := 1) (st' := [.int 5]) rfl rfl rfl rfl ?_
  refine ax_if_lt rfl (fun c2 => False.elim (by revert c2; decide)) (fun c2 => ?_)
  refine ax_s (pc' := 5) (st' := [.int 5]) rfl rfl rfl rfl ?_
  refine ax_s (pc' := 6) (st' := [.int 5, .int 5]) rfl rfl rfl rfl ?_
  refine ax_cmp_gt rfl (fun c3 => False.elim (by revert c3; decide)) (fun c3 => ?_)
  refine ax_s (pc' := 10) (st' := [.int 1]) rfl rfl rfl rfl ?_
  refine ax_s (pc' := 14) (st' := [.int 1]) rfl rfl rfl rfl ?_
  refine ax_rb (b := true) rfl rfl ?_
  show am_ex (d + 1) 134 13 [some (.int 5), some (.int 0), some (.int 5), some (.int 0)] [.int 1] (am_hh X S L) _
  refine ax_if_eq rfl (fun c4 => False.elim (by revert c4; decide)) (fun c4 => ?_)
  refine ax_s (pc' := 17) (st' := [.int 5]) rfl rfl rfl rfl ?_
  refine ax_s (pc' := 18) (st' := [.int 0, .int 5]) rfl rfl rfl rfl ?_
  refine ax_cmp_ne rfl (fun c5 => ?_) (fun c5 => False.elim (by revert c5; decide))
  refine ax_s (pc' := 26) (st' := [.ref 2]) rfl rfl rfl rfl ?_
  refine ax_s (pc' := 27) (st' := [.int 5, .ref 2]) rfl rfl rfl rfl ?_
  refine ax_ald (j := 5) (v := 4) rfl (hh_s2 _ _ _) rfl rfl (by decide) (by decide) rfl ?_
  refine ax_s (pc' := 29) (ls' := [some (.int 5), some (.int 0), some (.int 4), some (.int 0)]) (st' := []) rfl rfl rfl rfl ?_
  refine ax_s (pc' := 32) (ls' := [some (.int 5), some (.int 0), some (.int 4), some (.int 1)]) (st' := []) rfl rfl rfl rfl ?_
  refine ax_s (pc' := 4) (st' := []) rfl rfl rfl rfl ?_
  refine ax_s (pc' := 5) (st' := [.int 1]) rfl rfl rfl rfl ?_
  refine ax_s (pc' := 6) (st' := [.int 5, .int 1]) rfl rfl rfl rfl ?_
  refine ax_cmp_gt rfl (fun c6 => False.elim (by revert c6; decide)) (fun c6 => ?_)
  refine ax_s (pc' := 10) (st' := [.int 4]) rfl rfl rfl rfl ?_
  refine ax_call (vs := [.int 4]) (rr := []) rfl rfl rfl ?_
  refine ax_in (ls := [some (.int 4)]) rfl ?_
  refine ax_s (pc' := 1) (st' := [.int 4]) rfl rfl rfl rfl ?_
  refine ax_if_lt rfl (fun c7 => False.elim (by revert c7; decide)) (fun c7 => ?_)
  refine ax_s (pc' := 5) (st' := [.int 4]) rfl rfl rfl rfl ?_
  refine ax_s (pc' := 6) (st' := [.int 5, .int 4]) rfl rfl rfl rfl ?_
  refine ax_cmp_gt rfl (fun c8 => False.elim (by revert c8; decide)) (fun c8 => ?_)
  refine ax_s (pc' := 10) (st' := [.int 1]) rfl rfl rfl rfl ?_
  refine ax_s (pc' := 14) (st' := [.int 1]) rfl rfl rfl rfl ?_
  refine ax_rb (b := true) rfl rfl ?_
  show am_ex (d + 1) 134 13 [some (.int 5), some (.int 0), some (.int 4), some (.int 1)] [.int 1] (am_hh X S L) _
  refine ax_if_eq rfl (fun c9 => False.elim (by revert c9; decide)) (fun c9 => ?_)
  refine ax_s (pc' := 17) (st' := [.int 4]) rfl rfl rfl rfl ?_
  refine ax_s (pc' := 18) (st' := [.int 0, .int 4]) rfl rfl rfl rfl ?_
  refine ax_cmp_ne rfl (fun c10 => ?_) (fun c10 => False.elim (by revert c10; decide))
  refine ax_s (pc' := 26) (st' := [.ref 2]) rfl rfl rfl rfl ?_
  refine ax_s (pc' := 27) (st' := [.int 4, .ref 2]) rfl rfl rfl rfl ?_
  refine ax_ald (j := 4) (v := 0) rfl (hh_s2 _ _ _) rfl rfl (by decide) (by decide) rfl ?_
  refine ax_s (pc' := 29) (ls' := [some (.int 5), some (.int 0), some (.int 0), some (.int 1)]) (st' := []) rfl rfl rfl rfl ?_
  refine ax_s (pc' := 32) (ls' := [some (.int 5), some (.int 0), some (.int 0), some (.int 2)]) (st' := []) rfl rfl rfl rfl ?_
  refine ax_s (pc' := 4) (st' := []) rfl rfl rfl rfl ?_
  refine ax_s (pc' := 5) (st' := [.int 2]) rfl rfl rfl rfl ?_
  refine ax_s (pc' := 6) (st' := [.int 5, .int 2]) rfl rfl rfl rfl ?_
  refine ax_cmp_gt rfl (fun c11 => False.elim (by revert c11; decide)) (fun c11 => ?_)
  refine ax_s (pc' := 10) (st' := [.int 0]) rfl rfl rfl rfl ?_
  refine ax_call (vs := [.int 0]) (rr := []) rfl rfl rfl ?_
  refine ax_in (ls := [some (.int 0)]) rfl ?_
  refine ax_s (pc' := 1) (st' := [.int 0]) rfl rfl rfl rfl ?_
  refine ax_if_lt rfl (fun c12 => False.elim (by revert c12; decide)) (fun c12 => ?_)
  refine ax_s (pc' := 5) (st' := [.int 0]) rfl rfl rfl rfl ?_
  refine ax_s (pc' := 6) (st' := [.int 5, .int 0]) rfl rfl rfl rfl ?_
  refine ax_cmp_gt rfl (fun c13 => False.elim (by revert c13; decide)) (fun c13 => ?_)
  refine ax_s (pc' := 10) (st' := [.int 1]) rfl rfl rfl rfl ?_
  refine ax_s (pc' := 14) (st' := [.int 1]) rfl rfl rfl rfl ?_
  refine ax_rb (b := true) rfl rfl ?_
  show am_ex (d + 1) 134 13 [some (.int 5), some (.int 0), some (.int 0), some (.int 2)] [.int 1] (am_hh X S L) _
  refine ax_if_eq rfl (fun c14 => False.elim (by revert c14; decide)) (fun c14 => ?_)
  refine ax_s (pc' := 17) (st' := [.int 0]) rfl rfl rfl rfl ?_
  refine ax_s (pc' := 18) (st' := [.int 0, .int 0]) rfl rfl rfl rfl ?_
  refine ax_cmp_ne rfl (fun c15 => False.elim (by revert c15; decide)) (fun c15 => ?_)
  refine ax_s (pc' := 22) (st' := [.int 1]) rfl rfl rfl rfl ?_
  refine ax_rb (b := true) rfl rfl ?_
  exact k1
theorem kt_isSuch_5_1 {d : Nat} {X : Nat × (Nat → Int32)} {S : Nat → Nat → Int32} {L : Nat → Int64} {Q : Option Value → am_H → Prop}  (k1 : Q (some (.int 0)) (am_hh X S L)) : am_mt (d + 1) 134 [.int 5, .int 1] (am_hh X S L) Q := by
  refine ax_in (ls := [some (.int 5), some (.int 1), none, none]) rfl ?_
  refine ax_s (pc' := 1) (st' := [.int 5]) rfl rfl rfl rfl ?_
  refine ax_s (pc' := 2) (ls' := [some (.int 5), some (.int 1), some (.int 5), none]) (st' := []) rfl rfl rfl rfl ?_
  refine ax_s (pc' := 3) (st' := [.int 0]) rfl rfl rfl rfl ?_
  refine ax_s (pc' := 4) (ls' := [some (.int 5), some (.int 1), some (.int 5), some (.int 0)]) (st' := []) rfl rfl rfl rfl ?_
  refine ax_s (pc' := 5) (st' := [.int 0]) rfl rfl rfl rfl ?_
  refine ax_s (pc' := 6) (st' := [.int 5, .int 0]) rfl rfl rfl rfl ?_
  refine ax_cmp_gt rfl (fun c1 => False.elim (by revert c1; decide)) (fun c1 => ?_)
  refine ax_s (pc' := 10) (st' := [.int 5]) rfl rfl rfl rfl ?_
  refine ax_call (vs := [.int 5]) (rr := []) rfl rfl rfl ?_
  refine ax_in (ls := [some (.int 5)]) rfl ?_
  refine ax_s (pc' := 1) (st' := [.int 5]) rfl rfl rfl rfl ?_
  refine ax_if_lt rfl (fun c2 => False.elim (by revert c2; decide)) (fun c2 => ?_)
  refine ax_s (pc' := 5) (st' := [.int 5]) rfl rfl rfl rfl ?_
  refine ax_s (pc' := 6) (st' := [.int 5, .int 5]) rfl rfl rfl rfl ?_
  refine ax_cmp_gt rfl (fun c3 => False.elim (by revert c3; decide)) (fun c3 => ?_)
  refine ax_s (pc' := 10) (st' := [.int 1]) rfl rfl rfl rfl ?_
  refine ax_s (pc' := 14) (st' := [.int 1]) rfl rfl rfl rfl ?_
  refine ax_rb (b := true) rfl rfl ?_
  show am_ex (d + 1) 134 13 [some (.int 5), some (.int 1), some (.int 5), some (.int 0)] [.int 1] (am_hh X S L) _
  refine ax_if_eq rfl (fun c4 => False.elim (by revert c4; decide)) (fun c4 => ?_)
  refine ax_s (pc' := 17) (st' := [.int 5]) rfl rfl rfl rfl ?_
  refine ax_s (pc' := 18) (st' := [.int 1, .int 5]) rfl rfl rfl rfl ?_
  refine ax_cmp_ne rfl (fun c5 => ?_) (fun c5 => False.elim (by revert c5; decide))
  refine ax_s (pc' := 26) (st' := [.ref 2]) rfl rfl rfl rfl ?_
  refine ax_s (pc' := 27) (st' := [.int 5, .ref 2]) rfl rfl rfl rfl ?_
  refine ax_ald (j := 5) (v := 4) rfl (hh_s2 _ _ _) rfl rfl (by decide) (by decide) rfl ?_
  refine ax_s (pc' := 29) (ls' := [some (.int 5), some (.int 1), some (.int 4), some (.int 0)]) (st' := []) rfl rfl rfl rfl ?_
  refine ax_s (pc' := 32) (ls' := [some (.int 5), some (.int 1), some (.int 4), some (.int 1)]) (st' := []) rfl rfl rfl rfl ?_
  refine ax_s (pc' := 4) (st' := []) rfl rfl rfl rfl ?_
  refine ax_s (pc' := 5) (st' := [.int 1]) rfl rfl rfl rfl ?_
  refine ax_s (pc' := 6) (st' := [.int 5, .int 1]) rfl rfl rfl rfl ?_
  refine ax_cmp_gt rfl (fun c6 => False.elim (by revert c6; decide)) (fun c6 => ?_)
  refine ax_s (pc' := 10) (st' := [.int 4]) rfl rfl rfl rfl ?_
  refine ax_call (vs := [.int 4]) (rr := []) rfl rfl rfl ?_
  refine ax_in (ls := [some (.int 4)]) rfl ?_
  refine ax_s (pc' := 1) (st' := [.int 4]) rfl rfl rfl rfl ?_
  refine ax_if_lt rfl (fun c7 => False.elim (by revert c7; decide)) (fun c7 => ?_)
  refine ax_s (pc' := 5) (st' := [.int 4]) rfl rfl rfl rfl ?_
  refine ax_s (pc' := 6) (st' := [.int 5, .int 4]) rfl rfl rfl rfl ?_
  refine ax_cmp_gt rfl (fun c8 => False.elim (by revert c8; decide)) (fun c8 => ?_)
  refine ax_s (pc' := 10) (st' := [.int 1]) rfl rfl rfl rfl ?_
  refine ax_s (pc' := 14) (st' := [.int 1]) rfl rfl rfl rfl ?_
  refine ax_rb (b := true) rfl rfl ?_
  show am_ex (d + 1) 134 13 [some (.int 5), some (.int 1), some (.int 4), some (.int 1)] [.int 1] (am_hh X S L) _
  refine ax_if_eq rfl (fun c9 => False.elim (by revert c9; decide)) (fun c9 => ?_)
  refine ax_s (pc' := 17) (st' := [.int 4]) rfl rfl rfl rfl ?_
  refine ax_s (pc' := 18) (st' := [.int 1, .int 4]) rfl rfl rfl rfl ?_
  refine ax_cmp_ne rfl (fun c10 => ?_) (fun c10 => False.elim (by revert c10; decide))
  refine ax_s (pc' := 26) (st' := [.ref 2]) rfl rfl rfl rfl ?_
  refine ax_s (pc' := 27) (st' := [.int 4, .ref 2]) rfl rfl rfl rfl ?_
  refine ax_ald (j := 4) (v := 0) rfl (hh_s2 _ _ _) rfl rfl (by decide) (by decide) rfl ?_
  refine ax_s (pc' := 29) (ls' := [some (.int 5), some (.int 1), some (.int 0), some (.int 1)]) (st' := []) rfl rfl rfl rfl ?_
  refine ax_s (pc' := 32) (ls' := [some (.int 5), some (.int 1), some (.int 0), some (.int 2)]) (st' := []) rfl rfl rfl rfl ?_
  refine ax_s (pc' := 4) (st' := []) rfl rfl rfl rfl ?_
  refine ax_s (pc' := 5) (st' := [.int 2]) rfl rfl rfl rfl ?_
  refine ax_s (pc' := 6) (st' := [.int 5, .int 2]) rfl rfl rfl rfl ?_
  refine ax_cmp_gt rfl (fun c11 => False.elim (by revert c11; decide)) (fun c11 => ?_)
  refine ax_s (pc' := 10) (st' := [.int 0]) rfl rfl rfl rfl ?_
  refine ax_call (vs := [.int 0]) (rr := []) rfl rfl rfl ?_
  refine ax_in (ls := [some (.int 0)]) rfl ?_
  refine ax_s (pc' := 1) (st' := [.int 0]) rfl rfl rfl rfl ?_
  refine ax_if_lt rfl (fun c12 => False.elim (by revert c12; decide)) (fun c12 => ?_)
  refine ax_s (pc' := 5) (st' := [.int 0]) rfl rfl rfl rfl ?_
  refine ax_s (pc' := 6) (st' := [.int 5, .int 0]) rfl rfl rfl rfl ?_
  refine ax_cmp_gt rfl (fun c13 => False.elim (by revert c13; decide)) (fun c13 => ?_)
  refine ax_s (pc' := 10) (st' := [.int 1]) rfl rfl rfl rfl ?_
  refine ax_s (pc' := 14) (st' := [.int 1]) rfl rfl rfl rfl ?_
  refine ax_rb (b := true) rfl rfl ?_
  show am_ex (d + 1) 134 13 [some (.int 5), some (.int 1), some (.int 0), some (.int 2)] [.int 1] (am_hh X S L) _
  refine ax_if_eq rfl (fun c14 => False.elim (by revert c14; decide)) (fun c14 => ?_)
  refine ax_s (pc' := 17) (st' := [.int 0]) rfl rfl rfl rfl ?_
  refine ax_s (pc' := 18) (st' := [.int 1, .int 0]) rfl rfl rfl rfl ?_
  refine ax_cmp_ne rfl (fun c15 => ?_) (fun c15 => False.elim (by revert c15; decide))
  refine ax_s (pc' := 26) (st' := [.ref 2]) rfl rfl rfl rfl ?_
  refine ax_s (pc' := 27) (st' := [.int 0, .ref 2]) rfl rfl rfl rfl ?_
  refine ax_ald (j := 0) (v := (-1000000)) rfl (hh_s2 _ _ _) rfl rfl (by decide) (by decide) rfl ?_
  refine ax_s (pc' := 29) (ls' := [some (.int 5), some (.int 1), some (.int (-1000000)), some (.int 2)]) (st' := []) rfl rfl rfl rfl ?_
  refine ax_s (pc' := 32) (ls' := [some (.int 5), some (.int 1), some (.int (-1000000)), some (.int 3)]) (st' := []) rfl rfl rfl rfl ?_
  refine ax_s (pc' := 4) (st' := []) rfl rfl rfl rfl ?_
  refine ax_s (pc' := 5) (st' := [.int 3]) rfl rfl rfl rfl ?_
  refine ax_s (pc' := 6) (st' := [.int 5, .int 3]) rfl rfl rfl rfl ?_
  refine ax_cmp_gt rfl (fun c16 => False.elim (by revert c16; decide)) (fun c16 => ?_)
  refine ax_s (pc' := 10) (st' := [.int (-1000000)]) rfl rfl rfl rfl ?_
  refine ax_call (vs := [.int (-1000000)]) (rr := []) rfl rfl rfl ?_
  refine ax_in (ls := [some (.int (-1000000))]) rfl ?_
  refine ax_s (pc' := 1) (st' := [.int (-1000000)]) rfl rfl rfl rfl ?_
  refine ax_if_lt rfl (fun c17 => ?_) (fun c17 => False.elim (by revert c17; decide))
  refine ax_s (pc' := 14) (st' := [.int 0]) rfl rfl rfl rfl ?_
  refine ax_rb (b := false) rfl rfl ?_
  show am_ex (d + 1) 134 13 [some (.int 5), some (.int 1), some (.int (-1000000)), some (.int 3)] [.int 0] (am_hh X S L) _
  refine ax_if_eq rfl (fun c18 => ?_) (fun c18 => False.elim (by revert c18; decide))
  refine ax_s (pc' := 36) (st' := [.int 0]) rfl rfl rfl rfl ?_
  refine ax_rb (b := false) rfl rfl ?_
  exact k1
theorem kt_isSuch_5_2 {d : Nat} {X : Nat × (Nat → Int32)} {S : Nat → Nat → Int32} {L : Nat → Int64} {Q : Option Value → am_H → Prop}  (k1 : Q (some (.int 0)) (am_hh X S L)) : am_mt (d + 1) 134 [.int 5, .int 2] (am_hh X S L) Q := by
  refine ax_in (ls := [some (.int 5), some (.int 2), none, none]) rfl ?_
  refine ax_s (pc' := 1) (st' := [.int 5]) rfl rfl rfl rfl ?_
  refine ax_s (pc' := 2) (ls' := [some (.int 5), some (.int 2), some (.int 5), none]) (st' := []) rfl rfl rfl rfl ?_
  refine ax_s (pc' := 3) (st' := [.int 0]) rfl rfl rfl rfl ?_
  refine ax_s (pc' := 4) (ls' := [some (.int 5), some (.int 2), some (.int 5), some (.int 0)]) (st' := []) rfl rfl rfl rfl ?_
  refine ax_s (pc' := 5) (st' := [.int 0]) rfl rfl rfl rfl ?_
  refine ax_s (pc' := 6) (st' := [.int 5, .int 0]) rfl rfl rfl rfl ?_
  refine ax_cmp_gt rfl (fun c1 => False.elim (by revert c1; decide)) (fun c1 => ?_)
  refine ax_s (pc' := 10) (st' := [.int 5]) rfl rfl rfl rfl ?_
  refine ax_call (vs := [.int 5]) (rr := []) rfl rfl rfl ?_
  refine ax_in (ls := [some (.int 5)]) rfl ?_
  refine ax_s (pc' := 1) (st' := [.int 5]) rfl rfl rfl rfl ?_
  refine ax_if_lt rfl (fun c2 => False.elim (by revert c2; decide)) (fun c2 => ?_)
  refine ax_s (pc' := 5) (st' := [.int 5]) rfl rfl rfl rfl ?_
  refine ax_s (pc' := 6) (st' := [.int 5, .int 5]) rfl rfl rfl rfl ?_
  refine ax_cmp_gt rfl (fun c3 => False.elim (by revert c3; decide)) (fun c3 => ?_)
  refine ax_s (pc' := 10) (st' := [.int 1]) rfl rfl rfl rfl ?_
  refine ax_s (pc' := 14) (st' := [.int 1]) rfl rfl rfl rfl ?_
  refine ax_rb (b := true) rfl rfl ?_
  show am_ex (d + 1) 134 13 [some (.int 5), some (.int 2), some (.int 5), some (.int 0)] [.int 1] (am_hh X S L) _
  refine ax_if_eq rfl (fun c4 => False.elim (by revert c4; decide)) (fun c4 => ?_)
  refine ax_s (pc' := 17) (st' := [.int 5]) rfl rfl rfl rfl ?_
  refine ax_s (pc' := 18) (st' := [.int 2, .int 5]) rfl rfl rfl rfl ?_
  refine ax_cmp_ne rfl (fun c5 => ?_) (fun c5 => False.elim (by revert c5; decide))
  refine ax_s (pc' := 26) (st' := [.ref 2]) rfl rfl rfl rfl ?_
  refine ax_s (pc' := 27) (st' := [.int 5, .ref 2]) rfl rfl rfl rfl ?_
  refine ax_ald (j := 5) (v := 4) rfl (hh_s2 _ _ _) rfl rfl (by decide) (by decide) rfl ?_
  refine ax_s (pc' := 29) (ls' := [some (.int 5), some (.int 2), some (.int 4), some (.int 0)]) (st' := []) rfl rfl rfl rfl ?_
  refine ax_s (pc' := 32) (ls' := [some (.int 5), some (.int 2), some (.int 4), some (.int 1)]) (st' := []) rfl rfl rfl rfl ?_
  refine ax_s (pc' := 4) (st' := []) rfl rfl rfl rfl ?_
  refine ax_s (pc' := 5) (st' := [.int 1]) rfl rfl rfl rfl ?_
  refine ax_s (pc' := 6) (st' := [.int 5, .int 1]) rfl rfl rfl rfl ?_
  refine ax_cmp_gt rfl (fun c6 => False.elim (by revert c6; decide)) (fun c6 => ?_)
  refine ax_s (pc' := 10) (st' := [.int 4]) rfl rfl rfl rfl ?_
  refine ax_call (vs := [.int 4]) (rr := []) rfl rfl rfl ?_
  refine ax_in (ls := [some (.int 4)]) rfl ?_
  refine ax_s (pc' := 1) (st' := [.int 4]) rfl rfl rfl rfl ?_
  refine ax_if_lt rfl (fun c7 => False.elim (by revert c7; decide)) (fun c7 => ?_)
  refine ax_s (pc' := 5) (st' := [.int 4]) rfl rfl rfl rfl ?_
  refine ax_s (pc' := 6) (st' := [.int 5, .int 4]) rfl rfl rfl rfl ?_
  refine ax_cmp_gt rfl (fun c8 => False.elim (by revert c8; decide)) (fun c8 => ?_)
  refine ax_s (pc' := 10) (st' := [.int 1]) rfl rfl rfl rfl ?_
  refine ax_s (pc' := 14) (st' := [.int 1]) rfl rfl rfl rfl ?_
  refine ax_rb (b := true) rfl rfl ?_
  show am_ex (d + 1) 134 13 [some (.int 5), some (.int 2), some (.int 4), some (.int 1)] [.int 1] (am_hh X S L) _
  refine ax_if_eq rfl (fun c9 => False.elim (by revert c9; decide)) (fun c9 => ?_)
  refine ax_s (pc' := 17) (st' := [.int 4]) rfl rfl rfl rfl ?_
  refine ax_s (pc' := 18) (st' := [.int 2, .int 4]) rfl rfl rfl rfl ?_
  refine ax_cmp_ne rfl (fun c10 => ?_) (fun c10 => False.elim (by revert c10; decide))
  refine ax_s (pc' := 26) (st' := [.ref 2]) rfl rfl rfl rfl ?_
  refine ax_s (pc' := 27) (st' := [.int 4, .ref 2]) rfl rfl rfl rfl ?_
  refine ax_ald (j := 4) (v := 0) rfl (hh_s2 _ _ _) rfl rfl (by decide) (by decide) rfl ?_
  refine ax_s (pc' := 29) (ls' := [some (.int 5), some (.int 2), some (.int 0), some (.int 1)]) (st' := []) rfl rfl rfl rfl ?_
  refine ax_s (pc' := 32) (ls' := [some (.int 5), some (.int 2), some (.int 0), some (.int 2)]) (st' := []) rfl rfl rfl rfl ?_
  refine ax_s (pc' := 4) (st' := []) rfl rfl rfl rfl ?_
  refine ax_s (pc' := 5) (st' := [.int 2]) rfl rfl rfl rfl ?_
  refine ax_s (pc' := 6) (st' := [.int 5, .int 2]) rfl rfl rfl rfl ?_
  refine ax_cmp_gt rfl (fun c11 => False.elim (by revert c11; decide)) (fun c11 => ?_)
  refine ax_s (pc' := 10) (st' := [.int 0]) rfl rfl rfl rfl ?_
  refine ax_call (vs := [.int 0]) (rr := []) rfl rfl rfl ?_
  refine ax_in (ls := [some (.int 0)]) rfl ?_
  refine ax_s (pc' := 1) (st' := [.int 0]) rfl rfl rfl rfl ?_
  refine ax_if_lt rfl (fun c12 => False.elim (by revert c12; decide)) (fun c12 => ?_)
  refine ax_s (pc' := 5) (st' := [.int 0]) rfl rfl rfl rfl ?_
  refine ax_s (pc' := 6) (st' := [.int 5, .int 0]) rfl rfl rfl rfl ?_
  refine ax_cmp_gt rfl (fun c13 => False.elim (by revert c13; decide)) (fun c13 => ?_)
  refine ax_s (pc' := 10) (st' := [.int 1]) rfl rfl rfl rfl ?_
  refine ax_s (pc' := 14) (st' := [.int 1]) rfl rfl rfl rfl ?_
  refine ax_rb (b := true) rfl rfl ?_
  show am_ex (d + 1) 134 13 [some (.int 5), some (.int 2), some (.int 0), some (.int 2)] [.int 1] (am_hh X S L) _
  refine ax_if_eq rfl (fun c14 => False.elim (by revert c14; decide)) (fun c14 => ?_)
  refine ax_s (pc' := 17) (st' := [.int 0]) rfl rfl rfl rfl ?_
  refine ax_s (pc' := 18) (st' := [.int 2, .int 0]) rfl rfl rfl rfl ?_
  refine ax_cmp_ne rfl (fun c15 => ?_) (fun c15 => False.elim (by revert c15; decide))
  refine ax_s (pc' := 26) (st' := [.ref 2]) rfl rfl rfl rfl ?_
  refine ax_s (pc' := 27) (st' := [.int 0, .ref 2]) rfl rfl rfl rfl ?_
  refine ax_ald (j := 0) (v := (-1000000)) rfl (hh_s2 _ _ _) rfl rfl (by decide) (by decide) rfl ?_
  refine ax_s (pc' := 29) (ls' := [some (.int 5), some (.int 2), some (.int (-1000000)), some (.int 2)]) (st' := []) rfl rfl rfl rfl ?_
  refine ax_s (pc' := 32) (ls' := [some (.int 5), some (.int 2), some (.int (-1000000)), some (.int 3)]) (st' := []) rfl rfl rfl rfl ?_
  refine ax_s (pc' := 4) (st' := []) rfl rfl rfl rfl ?_
  refine ax_s (pc' := 5) (st' := [.int 3]) rfl rfl rfl rfl ?_
  refine ax_s (pc' := 6) (st' := [.int 5, .int 3]) rfl rfl rfl rfl ?_
  refine ax_cmp_gt rfl (fun c16 => False.elim (by revert c16; decide)) (fun c16 => ?_)
  refine ax_s (pc' := 10) (st' := [.int (-1000000)]) rfl rfl rfl rfl ?_
  refine ax_call (vs := [.int (-1000000)]) (rr := []) rfl rfl rfl ?_
  refine ax_in (ls := [some (.int (-1000000))]) rfl ?_
  refine ax_s (pc' := 1) (st' := [.int (-1000000)]) rfl rfl rfl rfl ?_
  refine ax_if_lt rfl (fun c17 => ?_) (fun c17 => False.elim (by revert c17; decide))
  refine ax_s (pc' := 14) (st' := [.int 0]) rfl rfl rfl rfl ?_
  refine ax_rb (b := false) rfl rfl ?_
  show am_ex (d + 1) 134 13 [some (.int 5), some (.int 2), some (.int (-1000000)), some (.int 3)] [.int 0] (am_hh X S L) _
  refine ax_if_eq rfl (fun c18 => ?_) (fun c18 => False.elim (by revert c18; decide))
  refine ax_s (pc' := 36) (st' := [.int 0]) rfl rfl rfl rfl ?_
  refine ax_rb (b := false) rfl rfl ?_
  exact k1
theorem kt_isSuch_5_3 {d : Nat} {X : Nat × (Nat → Int32)} {S : Nat → Nat → Int32} {L : Nat → Int64} {Q : Option Value → am_H → Prop}  (k1 : Q (some (.int 0)) (am_hh X S L)) : am_mt (d + 1) 134 [.int 5, .int 3] (am_hh X S L) Q := by
  refine ax_in (ls := [some (.int 5), some (.int 3), none, none]) rfl ?_
  refine ax_s (pc' := 1) (st' := [.int 5]) rfl rfl rfl rfl ?_
  refine ax_s (pc' := 2) (ls' := [some (.int 5), some (.int 3), some (.int 5), none]) (st' := []) rfl rfl rfl rfl ?_
  refine ax_s (pc' := 3) (st' := [.int 0]) rfl rfl rfl rfl ?_
  refine ax_s (pc' := 4) (ls' := [some (.int 5), some (.int 3), some (.int 5), some (.int 0)]) (st' := []) rfl rfl rfl rfl ?_
  refine ax_s (pc' := 5) (st' := [.int 0]) rfl rfl rfl rfl ?_
  refine ax_s (pc' := 6) (st' := [.int 5, .int 0]) rfl rfl rfl rfl ?_
  refine ax_cmp_gt rfl (fun c1 => False.elim (by revert c1; decide)) (fun c1 => ?_)
  refine ax_s (pc' := 10) (st' := [.int 5]) rfl rfl rfl rfl ?_
  refine ax_call (vs := [.int 5]) (rr := []) rfl rfl rfl ?_
  refine ax_in (ls := [some (.int 5)]) rfl ?_
  refine ax_s (pc' := 1) (st' := [.int 5]) rfl rfl rfl rfl ?_
  refine ax_if_lt rfl (fun c2 => False.elim (by revert c2; decide)) (fun c2 => ?_)
  refine ax_s (pc' := 5) (st' := [.int 5]) rfl rfl rfl rfl ?_
  refine ax_s (pc' := 6) (st' := [.int 5, .int 5]) rfl rfl rfl rfl ?_
  refine ax_cmp_gt rfl (fun c3 => False.elim (by revert c3; decide)) (fun c3 => ?_)
  refine ax_s (pc' := 10) (st' := [.int 1]) rfl rfl rfl rfl ?_
  refine ax_s (pc' := 14) (st' := [.int 1]) rfl rfl rfl rfl ?_
  refine ax_rb (b := true) rfl rfl ?_
  show am_ex (d + 1) 134 13 [some (.int 5), some (.int 3), some (.int 5), some (.int 0)] [.int 1] (am_hh X S L) _
  refine ax_if_eq rfl (fun c4 => False.elim (by revert c4; decide)) (fun c4 => ?_)
  refine ax_s (pc' := 17) (st' := [.int 5]) rfl rfl rfl rfl ?_
  refine ax_s (pc' := 18) (st' := [.int 3, .int 5]) rfl rfl rfl rfl ?_
  refine ax_cmp_ne rfl (fun c5 => ?_) (fun c5 => False.elim (by revert c5; decide))
  refine ax_s (pc' := 26) (st' := [.ref 2]) rfl rfl rfl rfl ?_
  refine ax_s (pc' := 27) (st' := [.int 5, .ref 2]) rfl rfl rfl rfl ?_
  refine ax_ald (j := 5) (v := 4) rfl (hh_s2 _ _ _) rfl rfl (by decide) (by decide) rfl ?_
  refine ax_s (pc' := 29) (ls' := [some (.int 5), some (.int 3), some (.int 4), some (.int 0)]) (st' := []) rfl rfl rfl rfl ?_
  refine ax_s (pc' := 32) (ls' := [some (.int 5), some (.int 3), some (.int 4), some (.int 1)]) (st' := []) rfl rfl rfl rfl ?_
  refine ax_s (pc' := 4) (st' := []) rfl rfl rfl rfl ?_
  refine ax_s (pc' := 5) (st' := [.int 1]) rfl rfl rfl rfl ?_
  refine ax_s (pc' := 6) (st' := [.int 5, .int 1]) rfl rfl rfl rfl ?_
  refine ax_cmp_gt rfl (fun c6 => False.elim (by revert c6; decide)) (fun c6 => ?_)
  refine ax_s (pc' := 10) (st' := [.int 4]) rfl rfl rfl rfl ?_
  refine ax_call (vs := [.int 4]) (rr := []) rfl rfl rfl ?_
  refine ax_in (ls := [some (.int 4)]) rfl ?_
  refine ax_s (pc' := 1) (st' := [.int 4]) rfl rfl rfl rfl ?_
  refine ax_if_lt rfl (fun c7 => False.elim (by revert c7; decide)) (fun c7 => ?_)
  refine ax_s (pc' := 5) (st' := [.int 4]) rfl rfl rfl rfl ?_
  refine ax_s (pc' := 6) (st' := [.int 5, .int 4]) rfl rfl rfl rfl ?_
  refine ax_cmp_gt rfl (fun c8 => False.elim (by revert c8; decide)) (fun c8 => ?_)
  refine ax_s (pc' := 10) (st' := [.int 1]) rfl rfl rfl rfl ?_
  refine ax_s (pc' := 14) (st' := [.int 1]) rfl rfl rfl rfl ?_
  refine ax_rb (b := true) rfl rfl ?_
  show am_ex (d + 1) 134 13 [some (.int 5), some (.int 3), some (.int 4), some (.int 1)] [.int 1] (am_hh X S L) _
  refine ax_if_eq rfl (fun c9 => False.elim (by revert c9; decide)) (fun c9 => ?_)
  refine ax_s (pc' := 17) (st' := [.int 4]) rfl rfl rfl rfl ?_
  refine ax_s (pc' := 18) (st' := [.int 3, .int 4]) rfl rfl rfl rfl ?_
  refine ax_cmp_ne rfl (fun c10 => ?_) (fun c10 => False.elim (by revert c10; decide))
  refine ax_s (pc' := 26) (st' := [.ref 2]) rfl rfl rfl rfl ?_
  refine ax_s (pc' := 27) (st' := [.int 4, .ref 2]) rfl rfl rfl rfl ?_
  refine ax_ald (j := 4) (v := 0) rfl (hh_s2 _ _ _) rfl rfl (by decide) (by decide) rfl ?_
  refine ax_s (pc' := 29) (ls' := [some (.int 5), some (.int 3), some (.int 0), some (.int 1)]) (st' := []) rfl rfl rfl rfl ?_
  refine ax_s (pc' := 32) (ls' := [some (.int 5), some (.int 3), some (.int 0), some (.int 2)]) (st' := []) rfl rfl rfl rfl ?_
  refine ax_s (pc' := 4) (st' := []) rfl rfl rfl rfl ?_
  refine ax_s (pc' := 5) (st' := [.int 2]) rfl rfl rfl rfl ?_
  refine ax_s (pc' := 6) (st' := [.int 5, .int 2]) rfl rfl rfl rfl ?_
  refine ax_cmp_gt rfl (fun c11 => False.elim (by revert c11; decide)) (fun c11 => ?_)
  refine ax_s (pc' := 10) (st' := [.int 0]) rfl rfl rfl rfl ?_
  refine ax_call (vs := [.int 0]) (rr := []) rfl rfl rfl ?_
  refine ax_in (ls := [some (.int 0)]) rfl ?_
  refine ax_s (pc' := 1) (st' := [.int 0]) rfl rfl rfl rfl ?_
  refine ax_if_lt rfl (fun c12 => False.elim (by revert c12; decide)) (fun c12 => ?_)
  refine ax_s (pc' := 5) (st' := [.int 0]) rfl rfl rfl rfl ?_
  refine ax_s (pc' := 6) (st' := [.int 5, .int 0]) rfl rfl rfl rfl ?_
  refine ax_cmp_gt rfl (fun c13 => False.elim (by revert c13; decide)) (fun c13 => ?_)
  refine ax_s (pc' := 10) (st' := [.int 1]) rfl rfl rfl rfl ?_
  refine ax_s (pc' := 14) (st' := [.int 1]) rfl rfl rfl rfl ?_
  refine ax_rb (b := true) rfl rfl ?_
  show am_ex (d + 1) 134 13 [some (.int 5), some (.int 3), some (.int 0), some (.int 2)] [.int 1] (am_hh X S L) _
  refine ax_if_eq rfl (fun c14 => False.elim (by revert c14; decide)) (fun c14 => ?_)
  refine ax_s (pc' := 17) (st' := [.int 0]) rfl rfl rfl rfl ?_
  refine ax_s (pc' := 18) (st' := [.int 3, .int 0]) rfl rfl rfl rfl ?_
  refine ax_cmp_ne rfl (fun c15 => ?_) (fun c15 => False.elim (by revert c15; decide))
  refine ax_s (pc' := 26) (st' := [.ref 2]) rfl rfl rfl rfl ?_
  refine ax_s (pc' := 27) (st' := [.int 0, .ref 2]) rfl rfl rfl rfl ?_
  refine ax_ald (j := 0) (v := (-1000000)) rfl (hh_s2 _ _ _) rfl rfl (by decide) (by decide) rfl ?_
  refine ax_s (pc' := 29) (ls' := [some (.int 5), some (.int 3), some (.int (-1000000)), some (.int 2)]) (st' := []) rfl rfl rfl rfl ?_
  refine ax_s (pc' := 32) (ls' := [some (.int 5), some (.int 3), some (.int (-1000000)), some (.int 3)]) (st' := []) rfl rfl rfl rfl ?_
  refine ax_s (pc' := 4) (st' := []) rfl rfl rfl rfl ?_
  refine ax_s (pc' := 5) (st' := [.int 3]) rfl rfl rfl rfl ?_
  refine ax_s (pc' := 6) (st' := [.int 5, .int 3]) rfl rfl rfl rfl ?_
  refine ax_cmp_gt rfl (fun c16 => False.elim (by revert c16; decide)) (fun c16 => ?_)
  refine ax_s (pc' := 10) (st' := [.int (-1000000)]) rfl rfl rfl rfl ?_
  refine ax_call (vs := [.int (-1000000)]) (rr := []) rfl rfl rfl ?_
  refine ax_in (ls := [some (.int (-1000000))]) rfl ?_
  refine ax_s (pc' := 1) (st' := [.int (-1000000)]) rfl rfl rfl rfl ?_
  refine ax_if_lt rfl (fun c17 => ?_) (fun c17 => False.elim (by revert c17; decide))
  refine ax_s (pc' := 14) (st' := [.int 0]) rfl rfl rfl rfl ?_
  refine ax_rb (b := false) rfl rfl ?_
  show am_ex (d + 1) 134 13 [some (.int 5), some (.int 3), some (.int (-1000000)), some (.int 3)] [.int 0] (am_hh X S L) _
  refine ax_if_eq rfl (fun c18 => ?_) (fun c18 => False.elim (by revert c18; decide))
  refine ax_s (pc' := 36) (st' := [.int 0]) rfl rfl rfl rfl ?_
  refine ax_rb (b := false) rfl rfl ?_
  exact k1
theorem kt_isSuch_5_4 {d : Nat} {X : Nat × (Nat → Int32)} {S : Nat → Nat → Int32} {L : Nat → Int64} {Q : Option Value → am_H → Prop}  (k1 : Q (some (.int 1)) (am_hh X S L)) : am_mt (d + 1) 134 [.int 5, .int 4] (am_hh X S L) Q := by
  refine ax_in (ls := [some (.int 5), some (.int 4), none, none]) rfl ?_
  refine ax_s (pc' := 1) (st' := [.int 5]) rfl rfl rfl rfl ?_
  refine ax_s (pc' := 2) (ls' := [some (.int 5), some (.int 4), some (.int 5), none]) (st' := []) rfl rfl rfl rfl ?_
  refine ax_s (pc' := 3) (st' := [.int 0]) rfl rfl rfl rfl ?_
  refine ax_s (pc' := 4) (ls' := [some (.int 5), some (.int 4), some (.int 5), some (.int 0)]) (st' := []) rfl rfl rfl rfl ?_
  refine ax_s (pc' := 5) (st' := [.int 0]) rfl rfl rfl rfl ?_
  refine ax_s (pc' := 6) (st' := [.int 5, .int 0]) rfl rfl rfl rfl ?_
  refine ax_cmp_gt rfl (fun c1 => False.elim (by revert c1; decide)) (fun c1 => ?_)
  refine ax_s (pc' := 10) (st' := [.int 5]) rfl rfl rfl rfl ?_
  refine ax_call (vs := [.int 5]) (rr := []) rfl rfl rfl ?_
  refine ax_in (ls := [some (.int 5)]) rfl ?_
  refine ax_s (pc' := 1) (st' := [.int 5]) rfl rfl rfl rfl ?_
  refine ax_if_lt rfl (fun c2 => False.elim (by revert c2; decide)) (fun c2 => ?_)
  refine ax_s (pc' := 5) (st' := [.int 5]) rfl rfl rfl rfl ?_
  refine ax_s (pc' := 6) (st' := [.int 5, .int 5]) rfl rfl rfl rfl ?_
  refine ax_cmp_gt rfl (fun c3 => False.elim (by revert c3; decide)) (fun c3 => ?_)
  refine ax_s (pc' := 10) (st' := [.int 1]) rfl rfl rfl rfl ?_
  refine ax_s (pc' := 14) (st' := [.int 1]) rfl rfl rfl rfl ?_
  refine ax_rb (b := true) rfl rfl ?_
  show am_ex (d + 1) 134 13 [some (.int 5), some (.int 4), some (.int 5), some (.int 0)] [.int 1] (am_hh X S L) _
  refine ax_if_eq rfl (fun c4 => False.elim (by revert c4; decide)) (fun c4 => ?_)
  refine ax_s (pc' := 17) (st' := [.int 5]) rfl rfl rfl rfl ?_
  refine ax_s (pc' := 18) (st' := [.int 4, .int 5]) rfl rfl rfl rfl ?_
  refine ax_cmp_ne rfl (fun c5 => ?_) (fun c5 => False.elim (by revert c5; decide))
  refine ax_s (pc' := 26) (st' := [.ref 2]) rfl rfl rfl rfl ?_
  refine ax_s (pc' := 27) (st' := [.int 5, .ref 2]) rfl rfl rfl rfl ?_
  refine ax_ald (j := 5) (v := 4) rfl (hh_s2 _ _ _) rfl rfl (by decide) (by decide) rfl ?_
  refine ax_s (pc' := 29) (ls' := [some (.int 5), some (.int 4), some (.int 4), some (.int 0)]) (st' := []) rfl rfl rfl rfl ?_
  refine ax_s (pc' := 32) (ls' := [some (.int 5), some (.int 4), some (.int 4), some (.int 1)]) (st' := []) rfl rfl rfl rfl ?_
  refine ax_s (pc' := 4) (st' := []) rfl rfl rfl rfl ?_
  refine ax_s (pc' := 5) (st' := [.int 1]) rfl rfl rfl rfl ?_
  refine ax_s (pc' := 6) (st' := [.int 5, .int 1]) rfl rfl rfl rfl ?_
  refine ax_cmp_gt rfl (fun c6 => False.elim (by revert c6; decide)) (fun c6 => ?_)
  refine ax_s (pc' := 10) (st' := [.int 4]) rfl rfl rfl rfl ?_
  refine ax_call (vs := [.int 4]) (rr := []) rfl rfl rfl ?_
  refine ax_in (ls := [some (.int 4)]) rfl ?_
  refine ax_s (pc' := 1) (st' := [.int 4]) rfl rfl rfl rfl ?_
  refine ax_if_lt rfl (fun c7 => False.elim (by revert c7; decide)) (fun c7 => ?_)
  refine ax_s (pc' := 5) (st' := [.int 4]) rfl rfl rfl rfl ?_
  refine ax_s (pc' := 6) (st' := [.int 5, .int 4]) rfl rfl rfl rfl ?_
  refine ax_cmp_gt rfl (fun c8 => False.elim (by revert c8; decide)) (fun c8 => ?_)
  refine ax_s (pc' := 10) (st' := [.int 1]) rfl rfl rfl rfl ?_
  refine ax_s (pc' := 14) (st' := [.int 1]) rfl rfl rfl rfl ?_
  refine ax_rb (b := true) rfl rfl ?_
  show am_ex (d + 1) 134 13 [some (.int 5), some (.int 4), some (.int 4), some (.int 1)] [.int 1] (am_hh X S L) _
  refine ax_if_eq rfl (fun c9 => False.elim (by revert c9; decide)) (fun c9 => ?_)
  refine ax_s (pc' := 17) (st' := [.int 4]) rfl rfl rfl rfl ?_
  refine ax_s (pc' := 18) (st' := [.int 4, .int 4]) rfl rfl rfl rfl ?_
  refine ax_cmp_ne rfl (fun c10 => False.elim (by revert c10; decide)) (fun c10 => ?_)
  refine ax_s (pc' := 22) (st' := [.int 1]) rfl rfl rfl rfl ?_
  refine ax_rb (b := true) rfl rfl ?_
  exact k1
theorem kt_isSuch_5_5 {d : Nat} {X : Nat × (Nat → Int32)} {S : Nat → Nat → Int32} {L : Nat → Int64} {Q : Option Value → am_H → Prop}  (k1 : Q (some (.int 1)) (am_hh X S L)) : am_mt (d + 1) 134 [.int 5, .int 5] (am_hh X S L) Q := by
  refine ax_in (ls := [some (.int 5), some (.int 5), none, none]) rfl ?_
  refine ax_s (pc' := 1) (st' := [.int 5]) rfl rfl rfl rfl ?_
  refine ax_s (pc' := 2) (ls' := [some (.int 5), some (.int 5), some (.int 5), none]) (st' := []) rfl rfl rfl rfl ?_
  refine ax_s (pc' := 3) (st' := [.int 0]) rfl rfl rfl rfl ?_
  refine ax_s (pc' := 4) (ls' := [some (.int 5), some (.int 5), some (.int 5), some (.int 0)]) (st' := []) rfl rfl rfl rfl ?_
  refine ax_s (pc' := 5) (st' := [.int 0]) rfl rfl rfl rfl ?_
  refine ax_s (pc' := 6) (st' := [.int 5, .int 0]) rfl rfl rfl rfl ?_
  refine ax_cmp_gt rfl (fun c1 => False.elim (by revert c1; decide)) (fun c1 => ?_)
  refine ax_s (pc' := 10) (st' := [.int 5]) rfl rfl rfl rfl ?_
  refine ax_call (vs := [.int 5]) (rr := []) rfl rfl rfl ?_
  refine ax_in (ls := [some (.int 5)]) rfl ?_
  refine ax_s (pc' := 1) (st' := [.int 5]) rfl rfl rfl rfl ?_
  refine ax_if_lt rfl (fun c2 => False.elim (by revert c2; decide)) (fun c2 => ?_)
  refine ax_s (pc' := 5) (st' := [.int 5]) rfl rfl rfl rfl ?_
  refine ax_s (pc' := 6) (st' := [.int 5, .int 5]) rfl rfl rfl rfl ?_
  refine ax_cmp_gt rfl (fun c3 => False.elim (by revert c3; decide)) (fun c3 => ?_)
  refine ax_s (pc' := 10) (st' := [.int 1]) rfl rfl rfl rfl ?_
  refine ax_s (pc' := 14) (st' := [.int 1]) rfl rfl rfl rfl ?_
  refine ax_rb (b := true) rfl rfl ?_
  show am_ex (d + 1) 134 13 [some (.int 5), some (.int 5), some (.int 5), some (.int 0)] [.int 1] (am_hh X S L) _
  refine ax_if_eq rfl (fun c4 => False.elim (by revert c4; decide)) (fun c4 => ?_)
  refine ax_s (pc' := 17) (st' := [.int 5]) rfl rfl rfl rfl ?_
  refine ax_s (pc' := 18) (st' := [.int 5, .int 5]) rfl rfl rfl rfl ?_
  refine ax_cmp_ne rfl (fun c5 => False.elim (by revert c5; decide)) (fun c5 => ?_)
  refine ax_s (pc' := 22) (st' := [.int 1]) rfl rfl rfl rfl ?_
  refine ax_rb (b := true) rfl rfl ?_
  exact k1
