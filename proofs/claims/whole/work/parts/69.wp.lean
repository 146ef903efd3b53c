theorem wp_isOutside {d : Nat} {X : Nat × (Nat → Int32)} {S : Nat → Nat → Int32} {L : Nat → Int64} {v a b : Int32} {Q : Option Value → am_H → Prop}  (k1 : v < a → Q (some (.int 1)) (am_hh X S L)) (k2 : ¬ v < a → v ≤ b → Q (some (.int 0)) (am_hh X S L)) (k3 : ¬ v < a → ¬ v ≤ b → Q (some (.int 1)) (am_hh X S L)) : am_mt d 35 [.int v, .int a, .int b] (am_hh X S L) Q := by
  refine ax_in (ls := [some (.int v), some (.int a), some (.int b)]) rfl ?_
  refine ax_s (pc' := 1) (st' := [.int v]) rfl rfl rfl rfl ?_
  refine ax_s (pc' := 2) (st' := [.int a, .int v]) rfl rfl rfl rfl ?_
  refine ax_cmp_lt rfl (fun c1 => ?_) (fun c1 => ?_)
  · refine ax_s (pc' := 11) (st' := [.int 1]) rfl rfl rfl rfl ?_
    refine ax_s (pc' := 15) (st' := [.int 1]) rfl rfl rfl rfl ?_
    refine ax_rb (b := true) rfl rfl ?_
    exact k1 c1
  · refine ax_s (pc' := 6) (st' := [.int v]) rfl rfl rfl rfl ?_
    refine ax_s (pc' := 7) (st' := [.int b, .int v]) rfl rfl rfl rfl ?_
    refine ax_cmp_le rfl (fun c2 => ?_) (fun c2 => ?_)
    · refine ax_s (pc' := 15) (st' := [.int 0]) rfl rfl rfl rfl ?_
      refine ax_rb (b := false) rfl rfl ?_
      exact k2 c1 c2
    · refine ax_s (pc' := 11) (st' := [.int 1]) rfl rfl rfl rfl ?_
      refine ax_s (pc' := 15) (st' := [.int 1]) rfl rfl rfl rfl ?_
      refine ax_rb (b := true) rfl rfl ?_
      exact k3 c1 c2
theorem wp_isRow {d : Nat} {X : Nat × (Nat → Int32)} {S : Nat → Nat → Int32} {L : Nat → Int64} {v : Int32} {Q : Option Value → am_H → Prop}  (k1 : v < 0 → Q (some (.int 0)) (am_hh X S L)) (k2 : ¬ v < 0 → 8 ≤ v → Q (some (.int 0)) (am_hh X S L)) (k3 : ¬ v < 0 → ¬ 8 ≤ v → Q (some (.int 1)) (am_hh X S L)) : am_mt d 12 [.int v] (am_hh X S L) Q := by
  refine ax_in (ls := [some (.int v)]) rfl ?_
  refine ax_s (pc' := 1) (st' := [.int v]) rfl rfl rfl rfl ?_
  refine ax_if_lt rfl (fun c1 => ?_) (fun c1 => ?_)
  · refine ax_s (pc' := 15) (st' := [.int 0]) rfl rfl rfl rfl ?_
    refine ax_rb (b := false) rfl rfl ?_
    exact k1 c1
  · refine ax_s (pc' := 5) (st' := [.int v]) rfl rfl rfl rfl ?_
    refine ax_s (pc' := 7) (st' := [.int 8, .int v]) rfl rfl rfl rfl ?_
    refine ax_cmp_ge rfl (fun c2 => ?_) (fun c2 => ?_)
    · refine ax_s (pc' := 15) (st' := [.int 0]) rfl rfl rfl rfl ?_
      refine ax_rb (b := false) rfl rfl ?_
      exact k2 c1 c2
    · refine ax_s (pc' := 11) (st' := [.int 1]) rfl rfl rfl rfl ?_
      refine ax_s (pc' := 15) (st' := [.int 1]) rfl rfl rfl rfl ?_
      refine ax_rb (b := true) rfl rfl ?_
      exact k3 c1 c2
theorem wp_isRowM {d : Nat} {X : Nat × (Nat → Int32)} {S : Nat → Nat → Int32} {L : Nat → Int64} {v : Int32} {Q : Option Value → am_H → Prop}  (k1 : Q (some (.int (bI (decide (¬ v < 0 ∧ ¬ 7 < v))))) (am_hh X S L)) : am_mt (d + 1) 149 [.ref 285, .int v] (am_hh X S L) Q := by
  refine ax_in (ls := [some (.ref 285), some (.int v)]) rfl ?_
  refine ax_s (pc' := 1) (st' := [.int v]) rfl rfl rfl rfl ?_
  refine ax_s (pc' := 2) (st' := [.int 0, .int v]) rfl rfl rfl rfl ?_
  refine ax_s (pc' := 4) (st' := [.int 7, .int 0, .int v]) rfl rfl rfl rfl ?_
  refine ax_call (vs := [.int v, .int 0, .int 7]) (rr := []) rfl rfl rfl ?_
  refine mt_in ?_
  show am_ex (d + 1) 149 7 [some (.ref 285), some (.int v)] [.int (bI (decide (¬ v < 0 ∧ ¬ 7 < v)))] (am_hh X S L) _
  refine ax_rb rfl rfl ?_
  exact k1
theorem wp_isPart {d : Nat} {X : Nat × (Nat → Int32)} {S : Nat → Nat → Int32} {L : Nat → Int64} {v a b : Int32} {Q : Option Value → am_H → Prop}  (k1 : a < 0 → Q (some (.int 0)) (am_hh X S L)) (k2 : ¬ a < 0 → b < 0 → Q (some (.int 0)) (am_hh X S L)) (k3 : ¬ a < 0 → ¬ b < 0 → v < b → Q (some (.int 0)) (am_hh X S L)) (k4 : ¬ a < 0 → ¬ b < 0 → ¬ v < b → (v - b) < a → Q (some (.int 0)) (am_hh X S L)) (k5 : ¬ a < 0 → ¬ b < 0 → ¬ v < b → ¬ (v - b) < a → Q (some (.int 1)) (am_hh X S L)) : am_mt d 155 [.int a, .int b, .int v] (am_hh X S L) Q := by
  refine ax_in (ls := [some (.int a), some (.int b), some (.int v)]) rfl ?_
  refine ax_s (pc' := 1) (st' := [.int a]) rfl rfl rfl rfl ?_
  refine ax_if_lt rfl (fun c1 => ?_) (fun c1 => ?_)
  · refine ax_s (pc' := 25) (st' := [.int 0]) rfl rfl rfl rfl ?_
    refine ax_rb (b := false) rfl rfl ?_
    exact k1 c1
  · refine ax_s (pc' := 5) (st' := [.int b]) rfl rfl rfl rfl ?_
    refine ax_if_lt rfl (fun c2 => ?_) (fun c2 => ?_)
    · refine ax_s (pc' := 25) (st' := [.int 0]) rfl rfl rfl rfl ?_
      refine ax_rb (b := false) rfl rfl ?_
      exact k2 c1 c2
    · refine ax_s (pc' := 9) (st' := [.int b]) rfl rfl rfl rfl ?_
      refine ax_s (pc' := 10) (st' := [.int v, .int b]) rfl rfl rfl rfl ?_
      refine ax_cmp_gt rfl (fun c3 => ?_) (fun c3 => ?_)
      · refine ax_s (pc' := 25) (st' := [.int 0]) rfl rfl rfl rfl ?_
        refine ax_rb (b := false) rfl rfl ?_
        exact k3 c1 c2 c3
      · refine ax_s (pc' := 14) (st' := [.int a]) rfl rfl rfl rfl ?_
        refine ax_s (pc' := 15) (st' := [.int v, .int a]) rfl rfl rfl rfl ?_
        refine ax_s (pc' := 16) (st' := [.int b, .int v, .int a]) rfl rfl rfl rfl ?_
        refine ax_s (pc' := 17) (st' := [.int (v - b), .int a]) rfl rfl rfl rfl ?_
        refine ax_cmp_gt rfl (fun c4 => ?_) (fun c4 => ?_)
        · refine ax_s (pc' := 25) (st' := [.int 0]) rfl rfl rfl rfl ?_
          refine ax_rb (b := false) rfl rfl ?_
          exact k4 c1 c2 c3 c4
        · refine ax_s (pc' := 21) (st' := [.int 1]) rfl rfl rfl rfl ?_
          refine ax_s (pc' := 25) (st' := [.int 1]) rfl rfl rfl rfl ?_
          refine ax_rb (b := true) rfl rfl ?_
          exact k5 c1 c2 c3 c4
theorem ct_isOutside {d : Nat} {X : Nat × (Nat → Int32)} {S : Nat → Nat → Int32} {L : Nat → Int64} {v a b : Int32} {Q : Option Value → am_H → Prop} (hQ : Q (some (.int (bI (decide (v < a ∨ b < v))))) (am_hh X S L)) : am_mt d 35 [.int v, .int a, .int b] (am_hh X S L) Q := by
  refine wp_isOutside (fun c => ?_) (fun c1 c2 => ?_) (fun c1 c2 => ?_)
  · simpa [c, bI] using hQ
  · simpa [c1, c2, Int32.not_lt.mpr c2, bI] using hQ
  · simpa [c1, Int32.not_le.mp c2, bI] using hQ
theorem ct_isRow {d : Nat} {X : Nat × (Nat → Int32)} {S : Nat → Nat → Int32} {L : Nat → Int64} {v : Int32} {Q : Option Value → am_H → Prop} (hQ : Q (some (.int (bI (decide (¬ v < 0 ∧ ¬ 8 ≤ v))))) (am_hh X S L)) : am_mt d 12 [.int v] (am_hh X S L) Q := by
  refine wp_isRow (fun c => ?_) (fun c1 c2 => ?_) (fun c1 c2 => ?_)
  · simpa [c, bI] using hQ
  · simpa [c1, c2, bI] using hQ
  · simpa [c1, c2, bI] using hQ
theorem mt_isRow {d : Nat} {X : Nat × (Nat → Int32)} {S : Nat → Nat → Int32} {L : Nat → Int64} {v : Int32} {Q : Option Value → am_H → Prop} (hQ : Q (some (.int (bI (decide (¬ v < 0 ∧ ¬ 7 < v))))) (am_hh X S L)) : am_mt (d + 1) 149 [.ref 285, .int v] (am_hh X S L) Q := wp_isRowM hQ
theorem mt_isPart {d : Nat} {X : Nat × (Nat → Int32)} {S : Nat → Nat → Int32} {L : Nat → Int64} {v a b : Int32} {Q : Option Value → am_H → Prop} (hQ : Q (some (.int (bI (decide (¬ a < 0 ∧ ¬ b < 0 ∧ ¬ v < b ∧ ¬ v - b < a))))) (am_hh X S L)) : am_mt d 155 [.int a, .int b, .int v] (am_hh X S L) Q := by
  refine wp_isPart (fun c => ?_) (fun c1 c => ?_) (fun c1 c2 c => ?_) (fun c1 c2 c3 c => ?_) (fun c1 c2 c3 c => ?_)
  · simpa only [c, not_true, false_and, decide_false, bI, Bool.false_eq_true, if_false] using hQ
  · simpa only [c, not_true, false_and, and_false, decide_false, bI, Bool.false_eq_true, if_false] using hQ
  · simpa only [c, not_true, false_and, and_false, decide_false, bI, Bool.false_eq_true, if_false] using hQ
  · simpa only [c, not_true, false_and, and_false, decide_false, bI, Bool.false_eq_true, if_false] using hQ
  · simpa only [c1, c2, c3, c, not_false_eq_true, true_and, decide_true, bI, if_true] using hQ

