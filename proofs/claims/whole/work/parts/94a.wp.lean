theorem wp_isMissing {d : Nat} {X : Nat × (Nat → Int32)} {S : Nat → Nat → Int32} {L : Nat → Int64} {r : Nat} {Q : Option Value → am_H → Prop}  (x1 : r < 8) (k1 : ¬ (S 17 r) = (-1) → Q (some (.int 0)) (am_hh X S L)) (k2 : (S 17 r) = (-1) → Q (some (.int 1)) (am_hh X S L)) : am_mt d 17 [.ref 6, .int (nI r)] (am_hh X S L) Q := by
  refine ax_in (ls := [some (.ref 6), some (.int (nI r))]) rfl ?_
  refine ax_s (pc' := 1) (st' := [.ref 6]) rfl rfl rfl rfl ?_
  refine ax_get rfl (hh_6 _ _ _) rfl rfl rfl ?_
  show am_ex d 17 4 [some (.ref 6), some (.int (nI r))] [.ref 17] (am_hh X S L) _
  refine ax_s (pc' := 5) (st' := [.int (nI r), .ref 17]) rfl rfl rfl rfl ?_
  refine ax_ald (j := r) (v := (S 17 r)) rfl (hh_17 _ _ _) rfl rfl x1 (by decide) rfl ?_
  refine ax_s (pc' := 7) (st' := [.int (-1), .int (S 17 r)]) rfl rfl rfl rfl ?_
  refine ax_cmp_ne rfl (fun c1 => ?_) (fun c1 => ?_)
  · refine ax_s (pc' := 15) (st' := [.int 0]) rfl rfl rfl rfl ?_
    refine ax_rb (b := false) rfl rfl ?_
    exact k1 c1
  · refine ax_s (pc' := 11) (st' := [.int 1]) rfl rfl rfl rfl ?_
    refine ax_s (pc' := 15) (st' := [.int 1]) rfl rfl rfl rfl ?_
    refine ax_rb (b := true) rfl rfl ?_
    exact k2 c1
theorem wp_hasPlaces {d : Nat} {X : Nat × (Nat → Int32)} {S : Nat → Nat → Int32} {L : Nat → Int64} {r : Nat} {p q : Int32} {Q : Option Value → am_H → Prop}  (x1 : ¬ p < 0 → ¬ q < 0 → r < 8) (k1 : p < 0 → Q (some (.int 0)) (am_hh X S L)) (k2 : ¬ p < 0 → q < 0 → Q (some (.int 0)) (am_hh X S L)) (k3 : ¬ p < 0 → ¬ q < 0 → (S 17 r) < p → Q (some (.int 0)) (am_hh X S L)) (k4 : ¬ p < 0 → ¬ q < 0 → ¬ (S 17 r) < p → ((S 17 r) - p) < q → Q (some (.int 0)) (am_hh X S L)) (k5 : ¬ p < 0 → ¬ q < 0 → ¬ (S 17 r) < p → ¬ ((S 17 r) - p) < q → Q (some (.int 1)) (am_hh X S L)) : am_mt d 18 [.ref 6, .int (nI r), .int p, .int q] (am_hh X S L) Q := by
  refine ax_in (ls := [some (.ref 6), some (.int (nI r)), some (.int p), some (.int q)]) rfl ?_
  refine ax_s (pc' := 1) (st' := [.int p]) rfl rfl rfl rfl ?_
  refine ax_if_lt rfl (fun c1 => ?_) (fun c1 => ?_)
  · refine ax_s (pc' := 35) (st' := [.int 0]) rfl rfl rfl rfl ?_
    refine ax_rb (b := false) rfl rfl ?_
    exact k1 c1
  · refine ax_s (pc' := 5) (st' := [.int q]) rfl rfl rfl rfl ?_
    refine ax_if_lt rfl (fun c2 => ?_) (fun c2 => ?_)
    · refine ax_s (pc' := 35) (st' := [.int 0]) rfl rfl rfl rfl ?_
      refine ax_rb (b := false) rfl rfl ?_
      exact k2 c1 c2
    · refine ax_s (pc' := 9) (st' := [.int p]) rfl rfl rfl rfl ?_
      refine ax_s (pc' := 10) (st' := [.ref 6, .int p]) rfl rfl rfl rfl ?_
      refine ax_get rfl (hh_6 _ _ _) rfl rfl rfl ?_
      show am_ex d 18 13 [some (.ref 6), some (.int (nI r)), some (.int p), some (.int q)] [.ref 17, .int p] (am_hh X S L) _
      refine ax_s (pc' := 14) (st' := [.int (nI r), .ref 17, .int p]) rfl rfl rfl rfl ?_
      refine ax_ald (j := r) (v := (S 17 r)) rfl (hh_17 _ _ _) rfl rfl (x1 c1 c2) (by decide) rfl ?_
      refine ax_cmp_gt rfl (fun c3 => ?_) (fun c3 => ?_)
      · refine ax_s (pc' := 35) (st' := [.int 0]) rfl rfl rfl rfl ?_
        refine ax_rb (b := false) rfl rfl ?_
        exact k3 c1 c2 c3
      · refine ax_s (pc' := 19) (st' := [.int q]) rfl rfl rfl rfl ?_
        refine ax_s (pc' := 20) (st' := [.ref 6, .int q]) rfl rfl rfl rfl ?_
        refine ax_get rfl (hh_6 _ _ _) rfl rfl rfl ?_
        show am_ex d 18 23 [some (.ref 6), some (.int (nI r)), some (.int p), some (.int q)] [.ref 17, .int q] (am_hh X S L) _
        refine ax_s (pc' := 24) (st' := [.int (nI r), .ref 17, .int q]) rfl rfl rfl rfl ?_
        refine ax_ald (j := r) (v := (S 17 r)) rfl (hh_17 _ _ _) rfl rfl (x1 c1 c2) (by decide) rfl ?_
        refine ax_s (pc' := 26) (st' := [.int p, .int (S 17 r), .int q]) rfl rfl rfl rfl ?_
        refine ax_s (pc' := 27) (st' := [.int ((S 17 r) - p), .int q]) rfl rfl rfl rfl ?_
        refine ax_cmp_gt rfl (fun c4 => ?_) (fun c4 => ?_)
        · refine ax_s (pc' := 35) (st' := [.int 0]) rfl rfl rfl rfl ?_
          refine ax_rb (b := false) rfl rfl ?_
          exact k4 c1 c2 c3 c4
        · refine ax_s (pc' := 31) (st' := [.int 1]) rfl rfl rfl rfl ?_
          refine ax_s (pc' := 35) (st' := [.int 1]) rfl rfl rfl rfl ?_
          refine ax_rb (b := true) rfl rfl ?_
          exact k5 c1 c2 c3 c4
theorem kt_isMissing {d : Nat} {X : Nat × (Nat → Int32)} {S : Nat → Nat → Int32} {L : Nat → Int64} {v : Int32} {r : Nat} {Q : Option Value → am_H → Prop} (hv : v = nI r) (hr : r < 8) (hQ : Q (some (.int (bI (decide (S 17 r = -1))))) (am_hh X S L)) : am_mt d 17 [.ref 6, .int v] (am_hh X S L) Q := by
  subst hv
  refine wp_isMissing hr (fun c => ?_) (fun c => ?_)
  · simpa [c, bI] using hQ
  · simpa [c, bI] using hQ
theorem kt_hasPlaces {d : Nat} {X : Nat × (Nat → Int32)} {S : Nat → Nat → Int32} {L : Nat → Int64} {v p q : Int32} {r : Nat} {Q : Option Value → am_H → Prop} (hv : v = nI r) (hr : r < 8) (hQ : Q (some (.int (bI (decide (¬ p < 0 ∧ ¬ q < 0 ∧ ¬ S 17 r < p ∧ ¬ S 17 r - p < q))))) (am_hh X S L)) : am_mt d 18 [.ref 6, .int v, .int p, .int q] (am_hh X S L) Q := by
  subst hv
  refine wp_hasPlaces (fun _ _ => hr) (fun c => ?_) (fun c1 c => ?_) (fun c1 c2 c => ?_) (fun c1 c2 c3 c => ?_) (fun c1 c2 c3 c => ?_)
  · simpa only [c, not_true, false_and, decide_false, bI, Bool.false_eq_true, if_false] using hQ
  · simpa only [c, not_true, false_and, and_false, decide_false, bI, Bool.false_eq_true, if_false] using hQ
  · simpa only [c, not_true, false_and, and_false, decide_false, bI, Bool.false_eq_true, if_false] using hQ
  · simpa only [c, not_true, false_and, and_false, decide_false, bI, Bool.false_eq_true, if_false] using hQ
  · simpa only [c1, c2, c3, c, not_false_eq_true, true_and, decide_true, bI, if_true] using hQ
theorem wl_make {d : Nat} {X : Nat × (Nat → Int32)} {S : Nat → Nat → Int32} {L : Nat → Int64} {r c j : Nat} {q : Int32} {Q : Option Value → am_H → Prop}  (x1 : ¬ (nI c) ≤ (nI j) → r < 8) (x2 : ¬ (nI c) ≤ (nI j) → j < 40) (k1 : (nI c) ≤ (nI j) → Q none (am_hh X S L)) (k2 : ¬ (nI c) ≤ (nI j) → am_ex d 14 17 [some (.ref 6), some (.int (nI r)), some (.int q), some (.int (nI c)), some (.int (nI (j + 1)))] [] (am_hh X (am_u S (8 + 1 * r) j 0) L) Q) : am_ex d 14 17 [some (.ref 6), some (.int (nI r)), some (.int q), some (.int (nI c)), some (.int (nI j))] [] (am_hh X S L) Q := by
  refine ax_s (pc' := 19) (st' := [.int (nI j)]) rfl rfl rfl rfl ?_
  refine ax_s (pc' := 20) (st' := [.int (nI c), .int (nI j)]) rfl rfl rfl rfl ?_
  refine ax_cmp_ge rfl (fun c1 => ?_) (fun c1 => ?_)
  · refine ax_r rfl rfl rfl ?_
    exact k1 c1
  · refine ax_s (pc' := 24) (st' := [.ref 6]) rfl rfl rfl rfl ?_
    refine ax_get rfl (hh_6 _ _ _) rfl rfl rfl ?_
    show am_ex d 14 27 [some (.ref 6), some (.int (nI r)), some (.int q), some (.int (nI c)), some (.int (nI j))] [.ref 7] (am_hh X S L) _
    refine ax_s (pc' := 28) (st' := [.int (nI r), .ref 7]) rfl rfl rfl rfl ?_
    refine ax_qld (j := r) (b := (8 + 1 * r)) rfl (hh_7 _ _ _) rfl (by decide) rfl (x1 c1) (by decide) (if_pos (x1 c1)) ?_
    refine ax_s (pc' := 31) (st' := [.int (nI j), .ref (8 + 1 * r)]) rfl rfl rfl rfl ?_
    refine ax_s (pc' := 32) (st' := [.int 0, .int (nI j), .ref (8 + 1 * r)]) rfl rfl rfl rfl ?_
    refine ax_ast (j := j) rfl (hh_row _ _ _ (x1 c1)) (hh_rowm _ _ _ (x1 c1)) rfl (x2 c1) (by decide) (am_hh_set _ _ _ (8 + 1 * r) j _ (am_rowc _ _ (x1 c1) _).symm) ?_
    refine ax_s (pc' := 36) (ls' := [some (.ref 6), some (.int (nI r)), some (.int q), some (.int (nI c)), some (.int ((nI j) + 1))]) (st' := []) rfl rfl rfl rfl ?_
    rw [nI_1]
    refine ax_s (pc' := 17) (st' := []) rfl rfl rfl rfl ?_
    exact k2 c1
theorem wp_make {d : Nat} {X : Nat × (Nat → Int32)} {S : Nat → Nat → Int32} {L : Nat → Int64} {r c : Nat} {q : Int32} {Q : Option Value → am_H → Prop}  (x1 : r < 8) (k1 : am_ex d 14 17 [some (.ref 6), some (.int (nI r)), some (.int q), some (.int (nI c)), some (.int 0)] [] (am_hh X (am_u (am_u S 16 r q) 17 r (nI c)) L) Q) : am_mt d 14 [.ref 6, .int (nI r), .int q, .int (nI c)] (am_hh X S L) Q := by
  refine ax_in (ls := [some (.ref 6), some (.int (nI r)), some (.int q), some (.int (nI c)), none]) rfl ?_
  refine ax_s (pc' := 1) (st' := [.ref 6]) rfl rfl rfl rfl ?_
  refine ax_get rfl (hh_6 _ _ _) rfl rfl rfl ?_
  show am_ex d 14 4 [some (.ref 6), some (.int (nI r)), some (.int q), some (.int (nI c)), none] [.ref 16] (am_hh X S L) _
  refine ax_s (pc' := 5) (st' := [.int (nI r), .ref 16]) rfl rfl rfl rfl ?_
  refine ax_s (pc' := 6) (st' := [.int q, .int (nI r), .ref 16]) rfl rfl rfl rfl ?_
  refine ax_ast (j := r) rfl (hh_16 _ _ _) rfl rfl x1 (by decide) (am_hh_set _ _ _ 16 r _ rfl) ?_
  refine ax_s (pc' := 8) (st' := [.ref 6]) rfl rfl rfl rfl ?_
  refine ax_get rfl (hh_6 _ _ _) rfl rfl rfl ?_
  show am_ex d 14 11 [some (.ref 6), some (.int (nI r)), some (.int q), some (.int (nI c)), none] [.ref 17] (am_hh X (am_u S 16 r q) L) _
  refine ax_s (pc' := 12) (st' := [.int (nI r), .ref 17]) rfl rfl rfl rfl ?_
  refine ax_s (pc' := 13) (st' := [.int (nI c), .int (nI r), .ref 17]) rfl rfl rfl rfl ?_
  refine ax_ast (j := r) rfl (hh_17 _ _ _) rfl rfl x1 (by decide) (am_hh_set _ _ _ 17 r _ rfl) ?_
  refine ax_s (pc' := 15) (st' := [.int 0]) rfl rfl rfl rfl ?_
  refine ax_s (pc' := 17) (ls' := [some (.ref 6), some (.int (nI r)), some (.int q), some (.int (nI c)), some (.int 0)]) (st' := []) rfl rfl rfl rfl ?_
  exact k1
