def g_k_row (S : Nat → Nat → Int32) (p q r : Int32) : Prop := (¬ p < 0 ∧ ¬ 8 ≤ p) ∧ ¬ q < 0 ∧ ¬ 3 ≤ q ∧ r ≤ 40 ∧ 0 ≤ r
def eg_k_row (S : Nat → Nat → Int32) (p q r : Int32) : Int32 × (Nat → Nat → Int32) := (if ¬ p < 0 ∧ ¬ 8 ≤ p then (if q < 0 then ((-1000001), S) else (if 3 ≤ q then ((-1000001), S) else (if r ≤ 40 then (if 0 ≤ r then (0, S) else (((-1000010) - 4), (am_u S 5 12 4))) else ((-1000001), S)))) else ((-1000001), S))
theorem wg_k_row {d : Nat} {X : Nat × (Nat → Int32)} {S : Nat → Nat → Int32} {L : Nat → Int64} {p q r : Int32} {Q : Option Value → am_H → Prop}   (hb : ¬ g_k_row S p q r) (hQ : Q (some (.int (eg_k_row S p q r).1)) (am_hh X (eg_k_row S p q r).2 L)) : am_mt (d + 4) 11 [.ref 5, .int p, .int q, .int r] (am_hh X S L) Q := by
  refine ax_in (ls := [some (.ref 5), some (.int p), some (.int q), some (.int r)]) rfl ?_
  refine ax_s (pc' := 1) (st' := [.int p]) rfl rfl rfl rfl ?_
  refine ax_call (vs := [.int p]) (rr := []) rfl rfl rfl ?_
  refine ct_isRow ?_
  show am_ex (d + 4) 11 4 [some (.ref 5), some (.int p), some (.int q), some (.int r)] [.int (bI (decide (¬ p < 0 ∧ ¬ 8 ≤ p)))] (am_hh X S L) _
  refine ax_pF rfl (fun c1 => ?_) (fun c1 => ?_)
  · refine ax_s (pc' := 24) (st' := [.int (-1000001)]) rfl rfl rfl rfl ?_
    refine ax_r rfl rfl rfl ?_
    unfold eg_k_row at hQ
    rw [if_neg c1] at hQ
    exact hQ
  · refine ax_s (pc' := 8) (st' := [.int q]) rfl rfl rfl rfl ?_
    refine ax_if_lt rfl (fun c2 => ?_) (fun c2 => ?_)
    · refine ax_s (pc' := 24) (st' := [.int (-1000001)]) rfl rfl rfl rfl ?_
      refine ax_r rfl rfl rfl ?_
      unfold eg_k_row at hQ
      rw [if_pos c1, if_pos c2] at hQ
      exact hQ
    · refine ax_s (pc' := 12) (st' := [.int q]) rfl rfl rfl rfl ?_
      refine ax_s (pc' := 13) (st' := [.int 3, .int q]) rfl rfl rfl rfl ?_
      refine ax_cmp_ge rfl (fun c3 => ?_) (fun c3 => ?_)
      · refine ax_s (pc' := 24) (st' := [.int (-1000001)]) rfl rfl rfl rfl ?_
        refine ax_r rfl rfl rfl ?_
        unfold eg_k_row at hQ
        rw [if_pos c1, if_neg c2, if_pos c3] at hQ
        exact hQ
      · refine ax_s (pc' := 17) (st' := [.int r]) rfl rfl rfl rfl ?_
        refine ax_s (pc' := 19) (st' := [.int 40, .int r]) rfl rfl rfl rfl ?_
        refine ax_cmp_le rfl (fun c4 => ?_) (fun c4 => ?_)
        · refine ax_s (pc' := 26) (st' := [.int r]) rfl rfl rfl rfl ?_
          refine ax_if_ge rfl (fun c5 => ?_) (fun c5 => ?_)
          · exact absurd ⟨c1, c2, c3, c4, c5⟩ hb
          · refine ax_s (pc' := 30) (st' := [.ref 5]) rfl rfl rfl rfl ?_
            refine ax_s (pc' := 31) (st' := [.int 4, .ref 5]) rfl rfl rfl rfl ?_
            refine ax_call (vs := [.ref 5, .int 4]) (rr := []) rfl rfl rfl ?_
            refine ax_in (ls := [some (.ref 5), some (.int 4)]) rfl ?_
            refine ax_s (pc' := 1) (st' := [.ref 5]) rfl rfl rfl rfl ?_
            refine ax_s (pc' := 2) (st' := [.int 4, .ref 5]) rfl rfl rfl rfl ?_
            refine ax_put rfl (hh_5 _ _ _) rfl rfl (show 12 + 1 ≤ _ from Nat.le_of_ble_eq_true rfl) rfl (am_hh_set _ _ _ 5 12 _ rfl) ?_
            refine ax_s (pc' := 8) (st' := [.int (-1000010)]) rfl rfl rfl rfl ?_
            refine ax_s (pc' := 9) (st' := [.int 4, .int (-1000010)]) rfl rfl rfl rfl ?_
            refine ax_s (pc' := 10) (st' := [.int ((-1000010) - 4)]) rfl rfl rfl rfl ?_
            refine ax_r rfl rfl rfl ?_
            show am_ex (d + 4) 11 34 [some (.ref 5), some (.int p), some (.int q), some (.int r)] [.int ((-1000010) - 4)] (am_hh X (am_u S 5 12 4) L) _
            refine ax_r rfl rfl rfl ?_
            unfold eg_k_row at hQ
            rw [if_pos c1, if_neg c2, if_neg c3, if_pos c4, if_neg c5] at hQ
            exact hQ
        · refine ax_s (pc' := 24) (st' := [.int (-1000001)]) rfl rfl rfl rfl ?_
          refine ax_r rfl rfl rfl ?_
          unfold eg_k_row at hQ
          rw [if_pos c1, if_neg c2, if_neg c3, if_neg c4] at hQ
          exact hQ
def g_m_row (S : Nat → Nat → Int32) (p q r : Int32) : Prop := (¬ p < 0 ∧ ¬ 7 < p) ∧ (¬ q < 0 ∧ ¬ 2 < q) ∧ r ≤ 40 ∧ 0 ≤ r
def eg_m_row (S : Nat → Nat → Int32) (p q r : Int32) : Int32 × (Nat → Nat → Int32) := (if ¬ p < 0 ∧ ¬ 7 < p then (if ¬ q < 0 ∧ ¬ 2 < q then (if r ≤ 40 then (if 0 ≤ r then (0, S) else (((-1000010) - 4), (am_u S 285 3 4))) else ((-1000001), S)) else ((-1000001), S)) else ((-1000001), S))
theorem wg_m_row {d : Nat} {X : Nat × (Nat → Int32)} {S : Nat → Nat → Int32} {L : Nat → Int64} {p q r : Int32} {Q : Option Value → am_H → Prop}   (hb : ¬ g_m_row S p q r) (hQ : Q (some (.int (eg_m_row S p q r).1)) (am_hh X (eg_m_row S p q r).2 L)) : am_mt (d + 4) 148 [.ref 285, .int p, .int q, .int r] (am_hh X S L) Q := by
  refine ax_in (ls := [some (.ref 285), some (.int p), some (.int q), some (.int r), none]) rfl ?_
  refine ax_s (pc' := 1) (st' := [.ref 285]) rfl rfl rfl rfl ?_
  refine ax_s (pc' := 2) (st' := [.int p, .ref 285]) rfl rfl rfl rfl ?_
  refine ax_call (vs := [.ref 285, .int p]) (rr := []) rfl rfl rfl ?_
  refine mt_isRow ?_
  show am_ex (d + 4) 148 5 [some (.ref 285), some (.int p), some (.int q), some (.int r), none] [.int (bI (decide (¬ p < 0 ∧ ¬ 7 < p)))] (am_hh X S L) _
  refine ax_pF rfl (fun c1 => ?_) (fun c1 => ?_)
  · refine ax_s (pc' := 25) (st' := [.int (-1000001)]) rfl rfl rfl rfl ?_
    refine ax_r rfl rfl rfl ?_
    unfold eg_m_row at hQ
    rw [if_neg c1] at hQ
    exact hQ
  · refine ax_s (pc' := 9) (st' := [.int q]) rfl rfl rfl rfl ?_
    refine ax_s (pc' := 10) (st' := [.int 0, .int q]) rfl rfl rfl rfl ?_
    refine ax_s (pc' := 11) (st' := [.int 2, .int 0, .int q]) rfl rfl rfl rfl ?_
    refine ax_call (vs := [.int q, .int 0, .int 2]) (rr := []) rfl rfl rfl ?_
    refine mt_in ?_
    show am_ex (d + 4) 148 14 [some (.ref 285), some (.int p), some (.int q), some (.int r), none] [.int (bI (decide (¬ q < 0 ∧ ¬ 2 < q)))] (am_hh X S L) _
    refine ax_pF rfl (fun c2 => ?_) (fun c2 => ?_)
    · refine ax_s (pc' := 25) (st' := [.int (-1000001)]) rfl rfl rfl rfl ?_
      refine ax_r rfl rfl rfl ?_
      unfold eg_m_row at hQ
      rw [if_pos c1, if_neg c2] at hQ
      exact hQ
    · refine ax_s (pc' := 18) (st' := [.int r]) rfl rfl rfl rfl ?_
      refine ax_s (pc' := 20) (st' := [.int 40, .int r]) rfl rfl rfl rfl ?_
      refine ax_cmp_le rfl (fun c3 => ?_) (fun c3 => ?_)
      · refine ax_s (pc' := 27) (st' := [.int r]) rfl rfl rfl rfl ?_
        refine ax_if_ge rfl (fun c4 => ?_) (fun c4 => ?_)
        · exact absurd ⟨c1, c2, c3, c4⟩ hb
        · refine ax_s (pc' := 31) (st' := [.ref 285]) rfl rfl rfl rfl ?_
          refine ax_s (pc' := 32) (st' := [.int 4, .ref 285]) rfl rfl rfl rfl ?_
          refine ax_call (vs := [.ref 285, .int 4]) (rr := []) rfl rfl rfl ?_
          refine ax_in (ls := [some (.ref 285), some (.int 4)]) rfl ?_
          refine ax_s (pc' := 1) (st' := [.ref 285]) rfl rfl rfl rfl ?_
          refine ax_s (pc' := 2) (st' := [.int 4, .ref 285]) rfl rfl rfl rfl ?_
          refine ax_put rfl (hh_285 _ _ _) rfl rfl (show 3 + 1 ≤ _ from Nat.le_of_ble_eq_true rfl) rfl (am_hh_set _ _ _ 285 3 _ rfl) ?_
          refine ax_s (pc' := 7) (st' := [.int (-1000010)]) rfl rfl rfl rfl ?_
          refine ax_s (pc' := 8) (st' := [.int 4, .int (-1000010)]) rfl rfl rfl rfl ?_
          refine ax_s (pc' := 9) (st' := [.int ((-1000010) - 4)]) rfl rfl rfl rfl ?_
          refine ax_r rfl rfl rfl ?_
          show am_ex (d + 4) 148 35 [some (.ref 285), some (.int p), some (.int q), some (.int r), none] [.int ((-1000010) - 4)] (am_hh X (am_u S 285 3 4) L) _
          refine ax_r rfl rfl rfl ?_
          unfold eg_m_row at hQ
          rw [if_pos c1, if_pos c2, if_pos c3, if_neg c4] at hQ
          exact hQ
      · refine ax_s (pc' := 25) (st' := [.int (-1000001)]) rfl rfl rfl rfl ?_
        refine ax_r rfl rfl rfl ?_
        unfold eg_m_row at hQ
        rw [if_pos c1, if_pos c2, if_neg c3] at hQ
        exact hQ
theorem wv_k_row {d : Nat} {X : Nat × (Nat → Int32)} {S : Nat → Nat → Int32} {L : Nat → Int64} {a c : Nat} {q : Int32} {Q : Option Value → am_H → Prop}  (hg : (¬ (nI a) < 0 ∧ ¬ 8 ≤ (nI a)) ∧ ¬ q < 0 ∧ ¬ 3 ≤ q ∧ (nI c) ≤ 40 ∧ 0 ≤ (nI c)) (x1 : a < 8) (x2 : c < 41) (k1 : ∀ S6 : Nat → Nat → Int32, (∀ i, i < 40 → S6 (8 + 1 * a) i = if i < c then 0 else S (8 + 1 * a) i) → (∀ aa, aa ≠ 8 + 1 * a → S6 aa = (am_u (am_u S 16 a q) 17 a (nI c)) aa) → Q (some (.int (nI c))) (am_hh X (am_u S6 5 12 0) L)) : am_mt (d + 4) 11 [.ref 5, .int (nI a), .int q, .int (nI c)] (am_hh X S L) Q := by
  refine ax_in (ls := [some (.ref 5), some (.int (nI a)), some (.int q), some (.int (nI c))]) rfl ?_
  refine ax_s (pc' := 1) (st' := [.int (nI a)]) rfl rfl rfl rfl ?_
  refine ax_call (vs := [.int (nI a)]) (rr := []) rfl rfl rfl ?_
  refine ct_isRow ?_
  show am_ex (d + 4) 11 4 [some (.ref 5), some (.int (nI a)), some (.int q), some (.int (nI c))] [.int (bI (decide (¬ (nI a) < 0 ∧ ¬ 8 ≤ (nI a))))] (am_hh X S L) _
  refine ax_pF rfl (fun c1 => ?_) (fun c1 => ?_)
  · refine ax_s (pc' := 24) (st' := [.int (-1000001)]) rfl rfl rfl rfl ?_
    refine ax_r rfl rfl rfl ?_
    first | exact absurd (hg.1) c1 | exact absurd c1 (hg.1) | exact absurd (hg.1) (ne_true_of_eq_false c1)
  · refine ax_s (pc' := 8) (st' := [.int q]) rfl rfl rfl rfl ?_
    refine ax_if_lt rfl (fun c2 => ?_) (fun c2 => ?_)
    · refine ax_s (pc' := 24) (st' := [.int (-1000001)]) rfl rfl rfl rfl ?_
      refine ax_r rfl rfl rfl ?_
      first | exact absurd (hg.2.1) c2 | exact absurd c2 (hg.2.1) | exact absurd (hg.2.1) (ne_true_of_eq_false c2)
    · refine ax_s (pc' := 12) (st' := [.int q]) rfl rfl rfl rfl ?_
      refine ax_s (pc' := 13) (st' := [.int 3, .int q]) rfl rfl rfl rfl ?_
      refine ax_cmp_ge rfl (fun c3 => ?_) (fun c3 => ?_)
      · refine ax_s (pc' := 24) (st' := [.int (-1000001)]) rfl rfl rfl rfl ?_
        refine ax_r rfl rfl rfl ?_
        first | exact absurd (hg.2.2.1) c3 | exact absurd c3 (hg.2.2.1) | exact absurd (hg.2.2.1) (ne_true_of_eq_false c3)
      · refine ax_s (pc' := 17) (st' := [.int (nI c)]) rfl rfl rfl rfl ?_
        refine ax_s (pc' := 19) (st' := [.int 40, .int (nI c)]) rfl rfl rfl rfl ?_
        refine ax_cmp_le rfl (fun c4 => ?_) (fun c4 => ?_)
        · refine ax_s (pc' := 26) (st' := [.int (nI c)]) rfl rfl rfl rfl ?_
          refine ax_if_ge rfl (fun c5 => ?_) (fun c5 => ?_)
          · refine ax_s (pc' := 36) (st' := [.ref 5]) rfl rfl rfl rfl ?_
            refine ax_get rfl (hh_5 _ _ _) rfl rfl rfl ?_
            show am_ex (d + 4) 11 39 [some (.ref 5), some (.int (nI a)), some (.int q), some (.int (nI c))] [.ref 6] (am_hh X S L) _
            refine ax_s (pc' := 40) (st' := [.int (nI a), .ref 6]) rfl rfl rfl rfl ?_
            refine ax_s (pc' := 41) (st' := [.int q, .int (nI a), .ref 6]) rfl rfl rfl rfl ?_
            refine ax_s (pc' := 42) (st' := [.int (nI c), .int q, .int (nI a), .ref 6]) rfl rfl rfl rfl ?_
            refine ax_call (vs := [.ref 6, .int (nI a), .int q, .int (nI c)]) (rr := []) rfl rfl rfl ?_
            refine kt_make (r := a) (c := c) x1 x2 (fun S6 z6 f6 => ?_)
            show am_ex (d + 4) 11 45 [some (.ref 5), some (.int (nI a)), some (.int q), some (.int (nI c))] [] (am_hh X S6 L) _
            refine ax_s (pc' := 46) (st' := [.ref 5]) rfl rfl rfl rfl ?_
            refine ax_s (pc' := 47) (st' := [.int (nI c), .ref 5]) rfl rfl rfl rfl ?_
            refine ax_call (vs := [.ref 5, .int (nI c)]) (rr := []) rfl rfl rfl ?_
            refine ax_in (ls := [some (.ref 5), some (.int (nI c))]) rfl ?_
            refine ax_s (pc' := 1) (st' := [.ref 5]) rfl rfl rfl rfl ?_
            refine ax_s (pc' := 2) (st' := [.int 0, .ref 5]) rfl rfl rfl rfl ?_
            refine ax_put rfl (hh_5 _ _ _) rfl rfl (show 12 + 1 ≤ _ from Nat.le_of_ble_eq_true rfl) rfl (am_hh_set _ _ _ 5 12 _ rfl) ?_
            refine ax_s (pc' := 6) (st' := [.int (nI c)]) rfl rfl rfl rfl ?_
            refine ax_r rfl rfl rfl ?_
            show am_ex (d + 4) 11 50 [some (.ref 5), some (.int (nI a)), some (.int q), some (.int (nI c))] [.int (nI c)] (am_hh X (am_u S6 5 12 0) L) _
            refine ax_r rfl rfl rfl ?_
            exact k1 S6 z6 f6
          · refine ax_s (pc' := 30) (st' := [.ref 5]) rfl rfl rfl rfl ?_
            refine ax_s (pc' := 31) (st' := [.int 4, .ref 5]) rfl rfl rfl rfl ?_
            refine ax_call (vs := [.ref 5, .int 4]) (rr := []) rfl rfl rfl ?_
            refine ax_in (ls := [some (.ref 5), some (.int 4)]) rfl ?_
            refine ax_s (pc' := 1) (st' := [.ref 5]) rfl rfl rfl rfl ?_
            refine ax_s (pc' := 2) (st' := [.int 4, .ref 5]) rfl rfl rfl rfl ?_
            refine ax_put rfl (hh_5 _ _ _) rfl rfl (show 12 + 1 ≤ _ from Nat.le_of_ble_eq_true rfl) rfl (am_hh_set _ _ _ 5 12 _ rfl) ?_
            refine ax_s (pc' := 8) (st' := [.int (-1000010)]) rfl rfl rfl rfl ?_
            refine ax_s (pc' := 9) (st' := [.int 4, .int (-1000010)]) rfl rfl rfl rfl ?_
            refine ax_s (pc' := 10) (st' := [.int ((-1000010) - 4)]) rfl rfl rfl rfl ?_
            refine ax_r rfl rfl rfl ?_
            show am_ex (d + 4) 11 34 [some (.ref 5), some (.int (nI a)), some (.int q), some (.int (nI c))] [.int ((-1000010) - 4)] (am_hh X (am_u S 5 12 4) L) _
            refine ax_r rfl rfl rfl ?_
            first | exact absurd (hg.2.2.2.2) c5 | exact absurd c5 (hg.2.2.2.2) | exact absurd (hg.2.2.2.2) (ne_true_of_eq_false c5)
        · refine ax_s (pc' := 24) (st' := [.int (-1000001)]) rfl rfl rfl rfl ?_
          refine ax_r rfl rfl rfl ?_
          first | exact absurd (hg.2.2.2.1) c4 | exact absurd c4 (hg.2.2.2.1) | exact absurd (hg.2.2.2.1) (ne_true_of_eq_false c4)
theorem wv_m_row {d : Nat} {X : Nat × (Nat → Int32)} {S : Nat → Nat → Int32} {L : Nat → Int64} {a c : Nat} {q : Int32} {Q : Option Value → am_H → Prop}  (hg : (¬ (nI a) < 0 ∧ ¬ 7 < (nI a)) ∧ (¬ q < 0 ∧ ¬ 2 < q) ∧ (nI c) ≤ 40 ∧ 0 ≤ (nI c)) (x1 : a < 8) (k1 : am_ex (d + 4) 148 58 [some (.ref 285), some (.int (nI a)), some (.int q), some (.int (nI c)), some (.int 0)] [] (am_hh X (am_u (am_u (am_u S 285 3 0) 286 a q) 287 a (nI c)) L) Q) : am_mt (d + 4) 148 [.ref 285, .int (nI a), .int q, .int (nI c)] (am_hh X S L) Q := by
  refine ax_in (ls := [some (.ref 285), some (.int (nI a)), some (.int q), some (.int (nI c)), none]) rfl ?_
  refine ax_s (pc' := 1) (st' := [.ref 285]) rfl rfl rfl rfl ?_
  refine ax_s (pc' := 2) (st' := [.int (nI a), .ref 285]) rfl rfl rfl rfl ?_
  refine ax_call (vs := [.ref 285, .int (nI a)]) (rr := []) rfl rfl rfl ?_
  refine mt_isRow ?_
  show am_ex (d + 4) 148 5 [some (.ref 285), some (.int (nI a)), some (.int q), some (.int (nI c)), none] [.int (bI (decide (¬ (nI a) < 0 ∧ ¬ 7 < (nI a))))] (am_hh X S L) _
  refine ax_pF rfl (fun c1 => ?_) (fun c1 => ?_)
  · refine ax_s (pc' := 25) (st' := [.int (-1000001)]) rfl rfl rfl rfl ?_
    refine ax_r rfl rfl rfl ?_
    first | exact absurd (hg.1) c1 | exact absurd c1 (hg.1) | exact absurd (hg.1) (ne_true_of_eq_false c1)
  · refine ax_s (pc' := 9) (st' := [.int q]) rfl rfl rfl rfl ?_
    refine ax_s (pc' := 10) (st' := [.int 0, .int q]) rfl rfl rfl rfl ?_
    refine ax_s (pc' := 11) (st' := [.int 2, .int 0, .int q]) rfl rfl rfl rfl ?_
    refine ax_call (vs := [.int q, .int 0, .int 2]) (rr := []) rfl rfl rfl ?_
    refine mt_in ?_
    show am_ex (d + 4) 148 14 [some (.ref 285), some (.int (nI a)), some (.int q), some (.int (nI c)), none] [.int (bI (decide (¬ q < 0 ∧ ¬ 2 < q)))] (am_hh X S L) _
    refine ax_pF rfl (fun c2 => ?_) (fun c2 => ?_)
    · refine ax_s (pc' := 25) (st' := [.int (-1000001)]) rfl rfl rfl rfl ?_
      refine ax_r rfl rfl rfl ?_
      first | exact absurd (hg.2.1) c2 | exact absurd c2 (hg.2.1) | exact absurd (hg.2.1) (ne_true_of_eq_false c2)
    · refine ax_s (pc' := 18) (st' := [.int (nI c)]) rfl rfl rfl rfl ?_
      refine ax_s (pc' := 20) (st' := [.int 40, .int (nI c)]) rfl rfl rfl rfl ?_
      refine ax_cmp_le rfl (fun c3 => ?_) (fun c3 => ?_)
      · refine ax_s (pc' := 27) (st' := [.int (nI c)]) rfl rfl rfl rfl ?_
        refine ax_if_ge rfl (fun c4 => ?_) (fun c4 => ?_)
        · refine ax_s (pc' := 37) (st' := [.ref 285]) rfl rfl rfl rfl ?_
          refine ax_s (pc' := 38) (st' := [.int 0, .ref 285]) rfl rfl rfl rfl ?_
          refine ax_put rfl (hh_285 _ _ _) rfl rfl (show 3 + 1 ≤ _ from Nat.le_of_ble_eq_true rfl) rfl (am_hh_set _ _ _ 285 3 _ rfl) ?_
          refine ax_s (pc' := 42) (st' := [.ref 285]) rfl rfl rfl rfl ?_
          refine ax_get rfl (hh_285 _ _ _) rfl rfl rfl ?_
          show am_ex (d + 4) 148 45 [some (.ref 285), some (.int (nI a)), some (.int q), some (.int (nI c)), none] [.ref 286] (am_hh X (am_u S 285 3 0) L) _
          refine ax_s (pc' := 46) (st' := [.int (nI a), .ref 286]) rfl rfl rfl rfl ?_
          refine ax_s (pc' := 47) (st' := [.int q, .int (nI a), .ref 286]) rfl rfl rfl rfl ?_
          refine ax_ast (j := a) rfl (hh_286 _ _ _) rfl rfl x1 (by decide) (am_hh_set _ _ _ 286 a _ rfl) ?_
          refine ax_s (pc' := 49) (st' := [.ref 285]) rfl rfl rfl rfl ?_
          refine ax_get rfl (hh_285 _ _ _) rfl rfl rfl ?_
          show am_ex (d + 4) 148 52 [some (.ref 285), some (.int (nI a)), some (.int q), some (.int (nI c)), none] [.ref 287] (am_hh X (am_u (am_u S 285 3 0) 286 a q) L) _
          refine ax_s (pc' := 53) (st' := [.int (nI a), .ref 287]) rfl rfl rfl rfl ?_
          refine ax_s (pc' := 54) (st' := [.int (nI c), .int (nI a), .ref 287]) rfl rfl rfl rfl ?_
          refine ax_ast (j := a) rfl (hh_287 _ _ _) rfl rfl x1 (by decide) (am_hh_set _ _ _ 287 a _ rfl) ?_
          refine ax_s (pc' := 56) (st' := [.int 0]) rfl rfl rfl rfl ?_
          refine ax_s (pc' := 58) (ls' := [some (.ref 285), some (.int (nI a)), some (.int q), some (.int (nI c)), some (.int 0)]) (st' := []) rfl rfl rfl rfl ?_
          exact k1
        · refine ax_s (pc' := 31) (st' := [.ref 285]) rfl rfl rfl rfl ?_
          refine ax_s (pc' := 32) (st' := [.int 4, .ref 285]) rfl rfl rfl rfl ?_
          refine ax_call (vs := [.ref 285, .int 4]) (rr := []) rfl rfl rfl ?_
          refine ax_in (ls := [some (.ref 285), some (.int 4)]) rfl ?_
          refine ax_s (pc' := 1) (st' := [.ref 285]) rfl rfl rfl rfl ?_
          refine ax_s (pc' := 2) (st' := [.int 4, .ref 285]) rfl rfl rfl rfl ?_
          refine ax_put rfl (hh_285 _ _ _) rfl rfl (show 3 + 1 ≤ _ from Nat.le_of_ble_eq_true rfl) rfl (am_hh_set _ _ _ 285 3 _ rfl) ?_
          refine ax_s (pc' := 7) (st' := [.int (-1000010)]) rfl rfl rfl rfl ?_
          refine ax_s (pc' := 8) (st' := [.int 4, .int (-1000010)]) rfl rfl rfl rfl ?_
          refine ax_s (pc' := 9) (st' := [.int ((-1000010) - 4)]) rfl rfl rfl rfl ?_
          refine ax_r rfl rfl rfl ?_
          show am_ex (d + 4) 148 35 [some (.ref 285), some (.int (nI a)), some (.int q), some (.int (nI c)), none] [.int ((-1000010) - 4)] (am_hh X (am_u S 285 3 4) L) _
          refine ax_r rfl rfl rfl ?_
          first | exact absurd (hg.2.2.2) c4 | exact absurd c4 (hg.2.2.2) | exact absurd (hg.2.2.2) (ne_true_of_eq_false c4)
      · refine ax_s (pc' := 25) (st' := [.int (-1000001)]) rfl rfl rfl rfl ?_
        refine ax_r rfl rfl rfl ?_
        first | exact absurd (hg.2.2.1) c3 | exact absurd c3 (hg.2.2.1) | exact absurd (hg.2.2.1) (ne_true_of_eq_false c3)
theorem wl_mrow {d : Nat} {X : Nat × (Nat → Int32)} {S : Nat → Nat → Int32} {L : Nat → Int64} {a c j : Nat} {q : Int32} {Q : Option Value → am_H → Prop}  (x1 : ¬ (nI c) ≤ (nI j) → ((40 * a) + j) < 320) (k1 : (nI c) ≤ (nI j) → Q (some (.int (nI c))) (am_hh X S L)) (k2 : ¬ (nI c) ≤ (nI j) → am_ex (d + 4) 148 58 [some (.ref 285), some (.int (nI a)), some (.int q), some (.int (nI c)), some (.int (nI (j + 1)))] [] (am_hh X (am_u S 288 ((40 * a) + j) 0) L) Q) : am_ex (d + 4) 148 58 [some (.ref 285), some (.int (nI a)), some (.int q), some (.int (nI c)), some (.int (nI j))] [] (am_hh X S L) Q := by
  refine ax_s (pc' := 60) (st' := [.int (nI j)]) rfl rfl rfl rfl ?_
  refine ax_s (pc' := 61) (st' := [.int (nI c), .int (nI j)]) rfl rfl rfl rfl ?_
  refine ax_cmp_ge rfl (fun c1 => ?_) (fun c1 => ?_)
  · refine ax_s (pc' := 84) (st' := [.int (nI c)]) rfl rfl rfl rfl ?_
    refine ax_r rfl rfl rfl ?_
    exact k1 c1
  · refine ax_s (pc' := 65) (st' := [.ref 285]) rfl rfl rfl rfl ?_
    refine ax_get rfl (hh_285 _ _ _) rfl rfl rfl ?_
    show am_ex (d + 4) 148 68 [some (.ref 285), some (.int (nI a)), some (.int q), some (.int (nI c)), some (.int (nI j))] [.ref 288] (am_hh X S L) _
    refine ax_s (pc' := 70) (st' := [.int 40, .ref 288]) rfl rfl rfl rfl ?_
    refine ax_s (pc' := 71) (st' := [.int (nI a), .int 40, .ref 288]) rfl rfl rfl rfl ?_
    refine ax_s (pc' := 72) (st' := [.int (40 * (nI a)), .ref 288]) rfl rfl rfl rfl ?_
    refine ax_s (pc' := 74) (st' := [.int (nI j), .int (40 * (nI a)), .ref 288]) rfl rfl rfl rfl ?_
    refine ax_s (pc' := 75) (st' := [.int ((40 * (nI a)) + (nI j)), .ref 288]) rfl rfl rfl rfl ?_
    refine ax_s (pc' := 76) (st' := [.int 0, .int ((40 * (nI a)) + (nI j)), .ref 288]) rfl rfl rfl rfl ?_
    refine ax_ast (j := ((40 * a) + j)) rfl (hh_288 _ _ _) rfl (am_na (x := (40 * a)) (y := j) (am_nm (x := 40) (y := a) rfl rfl) rfl) (x1 c1) (by decide) (am_hh_set _ _ _ 288 ((40 * a) + j) _ rfl) ?_
    refine ax_s (pc' := 80) (ls' := [some (.ref 285), some (.int (nI a)), some (.int q), some (.int (nI c)), some (.int ((nI j) + 1))]) (st' := []) rfl rfl rfl rfl ?_
    rw [nI_1]
    refine ax_s (pc' := 58) (st' := []) rfl rfl rfl rfl ?_
    exact k2 c1
def g_k_drop (S : Nat → Nat → Int32) (p : Int32) : Prop := (¬ p < 0 ∧ ¬ 8 ≤ p) ∧ ¬ ((S 17 p.toNatClampNeg) = -1)
def eg_k_drop (S : Nat → Nat → Int32) (p : Int32) : Int32 × (Nat → Nat → Int32) := (if ¬ p < 0 ∧ ¬ 8 ≤ p then (if (S 17 p.toNatClampNeg) = -1 then (((-1000010) - 1), (am_u S 5 12 1)) else (0, S)) else ((-1000001), S))
theorem wg_k_drop {d : Nat} {X : Nat × (Nat → Int32)} {S : Nat → Nat → Int32} {L : Nat → Int64} {p : Int32} {Q : Option Value → am_H → Prop}  (x1 : ¬ p < 0 ∧ ¬ 8 ≤ p → am_ix p 8 = true) (hb : ¬ g_k_drop S p) (hQ : Q (some (.int (eg_k_drop S p).1)) (am_hh X (eg_k_drop S p).2 L)) : am_mt (d + 4) 24 [.ref 5, .int p] (am_hh X S L) Q := by
  refine ax_in (ls := [some (.ref 5), some (.int p)]) rfl ?_
  refine ax_s (pc' := 1) (st' := [.int p]) rfl rfl rfl rfl ?_
  refine ax_call (vs := [.int p]) (rr := []) rfl rfl rfl ?_
  refine ct_isRow ?_
  show am_ex (d + 4) 24 4 [some (.ref 5), some (.int p)] [.int (bI (decide (¬ p < 0 ∧ ¬ 8 ≤ p)))] (am_hh X S L) _
  refine ax_pT rfl (fun c1 => ?_) (fun c1 => ?_)
  · refine ax_s (pc' := 11) (st' := [.ref 5]) rfl rfl rfl rfl ?_
    refine ax_get rfl (hh_5 _ _ _) rfl rfl rfl ?_
    show am_ex (d + 4) 24 14 [some (.ref 5), some (.int p)] [.ref 6] (am_hh X S L) _
    refine ax_s (pc' := 15) (st' := [.int p, .ref 6]) rfl rfl rfl rfl ?_
    refine ax_call (vs := [.ref 6, .int p]) (rr := []) rfl rfl rfl ?_
    refine kt_isMissing (am_ix_nI (x1 c1)) (am_ix_lt (x1 c1)) ?_
    show am_ex (d + 4) 24 18 [some (.ref 5), some (.int p)] [.int (bI (decide ((S 17 p.toNatClampNeg) = -1)))] (am_hh X S L) _
    refine ax_pF rfl (fun c2 => ?_) (fun c2 => ?_)
    · exact absurd ⟨c1, c2⟩ hb
    · refine ax_s (pc' := 22) (st' := [.ref 5]) rfl rfl rfl rfl ?_
      refine ax_s (pc' := 23) (st' := [.int 1, .ref 5]) rfl rfl rfl rfl ?_
      refine ax_call (vs := [.ref 5, .int 1]) (rr := []) rfl rfl rfl ?_
      refine ax_in (ls := [some (.ref 5), some (.int 1)]) rfl ?_
      refine ax_s (pc' := 1) (st' := [.ref 5]) rfl rfl rfl rfl ?_
      refine ax_s (pc' := 2) (st' := [.int 1, .ref 5]) rfl rfl rfl rfl ?_
      refine ax_put rfl (hh_5 _ _ _) rfl rfl (show 12 + 1 ≤ _ from Nat.le_of_ble_eq_true rfl) rfl (am_hh_set _ _ _ 5 12 _ rfl) ?_
      refine ax_s (pc' := 8) (st' := [.int (-1000010)]) rfl rfl rfl rfl ?_
      refine ax_s (pc' := 9) (st' := [.int 1, .int (-1000010)]) rfl rfl rfl rfl ?_
      refine ax_s (pc' := 10) (st' := [.int ((-1000010) - 1)]) rfl rfl rfl rfl ?_
      refine ax_r rfl rfl rfl ?_
      show am_ex (d + 4) 24 26 [some (.ref 5), some (.int p)] [.int ((-1000010) - 1)] (am_hh X (am_u S 5 12 1) L) _
      refine ax_r rfl rfl rfl ?_
      unfold eg_k_drop at hQ
      rw [if_pos c1, if_pos c2] at hQ
      exact hQ
  · refine ax_s (pc' := 9) (st' := [.int (-1000001)]) rfl rfl rfl rfl ?_
    refine ax_r rfl rfl rfl ?_
    unfold eg_k_drop at hQ
    rw [if_neg c1] at hQ
    exact hQ
def g_m_drop (S : Nat → Nat → Int32) (p : Int32) : Prop := (¬ p < 0 ∧ ¬ 7 < p) ∧ 0 ≤ (S 287 (p).toNatClampNeg)
def eg_m_drop (S : Nat → Nat → Int32) (p : Int32) : Int32 × (Nat → Nat → Int32) := (if ¬ p < 0 ∧ ¬ 7 < p then (if 0 ≤ (S 287 (p).toNatClampNeg) then (0, S) else (((-1000010) - 1), (am_u S 285 3 1))) else ((-1000001), S))
theorem wg_m_drop {d : Nat} {X : Nat × (Nat → Int32)} {S : Nat → Nat → Int32} {L : Nat → Int64} {p : Int32} {Q : Option Value → am_H → Prop}  (x1 : ¬ p < 0 ∧ ¬ 7 < p → am_ix p 8 = true) (hb : ¬ g_m_drop S p) (hQ : Q (some (.int (eg_m_drop S p).1)) (am_hh X (eg_m_drop S p).2 L)) : am_mt (d + 4) 156 [.ref 285, .int p] (am_hh X S L) Q := by
  refine ax_in (ls := [some (.ref 285), some (.int p), none]) rfl ?_
  refine ax_s (pc' := 1) (st' := [.ref 285]) rfl rfl rfl rfl ?_
  refine ax_s (pc' := 2) (st' := [.int p, .ref 285]) rfl rfl rfl rfl ?_
  refine ax_call (vs := [.ref 285, .int p]) (rr := []) rfl rfl rfl ?_
  refine mt_isRow ?_
  show am_ex (d + 4) 156 5 [some (.ref 285), some (.int p), none] [.int (bI (decide (¬ p < 0 ∧ ¬ 7 < p)))] (am_hh X S L) _
  refine ax_pT rfl (fun c1 => ?_) (fun c1 => ?_)
  · refine ax_s (pc' := 12) (st' := [.ref 285]) rfl rfl rfl rfl ?_
    refine ax_get rfl (hh_285 _ _ _) rfl rfl rfl ?_
    show am_ex (d + 4) 156 15 [some (.ref 285), some (.int p), none] [.ref 287] (am_hh X S L) _
    refine ax_s (pc' := 16) (st' := [.int p, .ref 287]) rfl rfl rfl rfl ?_
    refine ax_ald' (v := (S 287 (p).toNatClampNeg)) rfl (hh_287 _ _ _) rfl (x1 c1) rfl ?_
    refine ax_if_ge rfl (fun c2 => ?_) (fun c2 => ?_)
    · exact absurd ⟨c1, c2⟩ hb
    · refine ax_s (pc' := 21) (st' := [.ref 285]) rfl rfl rfl rfl ?_
      refine ax_s (pc' := 22) (st' := [.int 1, .ref 285]) rfl rfl rfl rfl ?_
      refine ax_call (vs := [.ref 285, .int 1]) (rr := []) rfl rfl rfl ?_
      refine ax_in (ls := [some (.ref 285), some (.int 1)]) rfl ?_
      refine ax_s (pc' := 1) (st' := [.ref 285]) rfl rfl rfl rfl ?_
      refine ax_s (pc' := 2) (st' := [.int 1, .ref 285]) rfl rfl rfl rfl ?_
      refine ax_put rfl (hh_285 _ _ _) rfl rfl (show 3 + 1 ≤ _ from Nat.le_of_ble_eq_true rfl) rfl (am_hh_set _ _ _ 285 3 _ rfl) ?_
      refine ax_s (pc' := 7) (st' := [.int (-1000010)]) rfl rfl rfl rfl ?_
      refine ax_s (pc' := 8) (st' := [.int 1, .int (-1000010)]) rfl rfl rfl rfl ?_
      refine ax_s (pc' := 9) (st' := [.int ((-1000010) - 1)]) rfl rfl rfl rfl ?_
      refine ax_r rfl rfl rfl ?_
      show am_ex (d + 4) 156 25 [some (.ref 285), some (.int p), none] [.int ((-1000010) - 1)] (am_hh X (am_u S 285 3 1) L) _
      refine ax_r rfl rfl rfl ?_
      unfold eg_m_drop at hQ
      rw [if_pos c1, if_neg c2] at hQ
      exact hQ
  · refine ax_s (pc' := 10) (st' := [.int (-1000001)]) rfl rfl rfl rfl ?_
    refine ax_r rfl rfl rfl ?_
    unfold eg_m_drop at hQ
    rw [if_neg c1] at hQ
    exact hQ
theorem wv_k_drop {d : Nat} {X : Nat × (Nat → Int32)} {S : Nat → Nat → Int32} {L : Nat → Int64} {a : Nat} {Q : Option Value → am_H → Prop}  (hg : (¬ (nI a) < 0 ∧ ¬ 8 ≤ (nI a)) ∧ ¬ ((S 17 a) = -1)) (x1 : ¬ (nI a) < 0 ∧ ¬ 8 ≤ (nI a) → a < 8) (x2 : a < 8) (k1 : Q (some (.int (S 17 a))) (am_hh X (am_u (am_u S 17 a (-1)) 5 12 0) L)) : am_mt (d + 4) 24 [.ref 5, .int (nI a)] (am_hh X S L) Q := by
  refine ax_in (ls := [some (.ref 5), some (.int (nI a))]) rfl ?_
  refine ax_s (pc' := 1) (st' := [.int (nI a)]) rfl rfl rfl rfl ?_
  refine ax_call (vs := [.int (nI a)]) (rr := []) rfl rfl rfl ?_
  refine ct_isRow ?_
  show am_ex (d + 4) 24 4 [some (.ref 5), some (.int (nI a))] [.int (bI (decide (¬ (nI a) < 0 ∧ ¬ 8 ≤ (nI a))))] (am_hh X S L) _
  refine ax_pT rfl (fun c1 => ?_) (fun c1 => ?_)
  · refine ax_s (pc' := 11) (st' := [.ref 5]) rfl rfl rfl rfl ?_
    refine ax_get rfl (hh_5 _ _ _) rfl rfl rfl ?_
    show am_ex (d + 4) 24 14 [some (.ref 5), some (.int (nI a))] [.ref 6] (am_hh X S L) _
    refine ax_s (pc' := 15) (st' := [.int (nI a), .ref 6]) rfl rfl rfl rfl ?_
    refine ax_call (vs := [.ref 6, .int (nI a)]) (rr := []) rfl rfl rfl ?_
    refine kt_isMissing rfl (x1 c1) ?_
    show am_ex (d + 4) 24 18 [some (.ref 5), some (.int (nI a))] [.int (bI (decide ((S 17 a) = -1)))] (am_hh X S L) _
    refine ax_pF rfl (fun c2 => ?_) (fun c2 => ?_)
    · refine ax_s (pc' := 28) (st' := [.ref 5]) rfl rfl rfl rfl ?_
      refine ax_s (pc' := 29) (st' := [.ref 5, .ref 5]) rfl rfl rfl rfl ?_
      refine ax_get rfl (hh_5 _ _ _) rfl rfl rfl ?_
      show am_ex (d + 4) 24 32 [some (.ref 5), some (.int (nI a))] [.ref 6, .ref 5] (am_hh X S L) _
      refine ax_s (pc' := 33) (st' := [.int (nI a), .ref 6, .ref 5]) rfl rfl rfl rfl ?_
      refine ax_call (vs := [.ref 6, .int (nI a)]) (rr := [.ref 5]) rfl rfl rfl ?_
      refine ax_in (ls := [some (.ref 6), some (.int (nI a)), none]) rfl ?_
      refine ax_s (pc' := 1) (st' := [.ref 6]) rfl rfl rfl rfl ?_
      refine ax_get rfl (hh_6 _ _ _) rfl rfl rfl ?_
      show am_ex (d + 3) 25 4 [some (.ref 6), some (.int (nI a)), none] [.ref 17] (am_hh X S L) _
      refine ax_s (pc' := 5) (st' := [.int (nI a), .ref 17]) rfl rfl rfl rfl ?_
      refine ax_ald (j := a) (v := (S 17 a)) rfl (hh_17 _ _ _) rfl rfl x2 (by decide) rfl ?_
      refine ax_s (pc' := 7) (ls' := [some (.ref 6), some (.int (nI a)), some (.int (S 17 a))]) (st' := []) rfl rfl rfl rfl ?_
      refine ax_s (pc' := 8) (st' := [.ref 6]) rfl rfl rfl rfl ?_
      refine ax_get rfl (hh_6 _ _ _) rfl rfl rfl ?_
      show am_ex (d + 3) 25 11 [some (.ref 6), some (.int (nI a)), some (.int (S 17 a))] [.ref 17] (am_hh X S L) _
      refine ax_s (pc' := 12) (st' := [.int (nI a), .ref 17]) rfl rfl rfl rfl ?_
      refine ax_s (pc' := 13) (st' := [.int (-1), .int (nI a), .ref 17]) rfl rfl rfl rfl ?_
      refine ax_ast (j := a) rfl (hh_17 _ _ _) rfl rfl x2 (by decide) (am_hh_set _ _ _ 17 a _ rfl) ?_
      refine ax_s (pc' := 15) (st' := [.int (S 17 a)]) rfl rfl rfl rfl ?_
      refine ax_r rfl rfl rfl ?_
      show am_ex (d + 4) 24 36 [some (.ref 5), some (.int (nI a))] [.int (S 17 a), .ref 5] (am_hh X (am_u S 17 a (-1)) L) _
      refine ax_call (vs := [.ref 5, .int (S 17 a)]) (rr := []) rfl rfl rfl ?_
      refine ax_in (ls := [some (.ref 5), some (.int (S 17 a))]) rfl ?_
      refine ax_s (pc' := 1) (st' := [.ref 5]) rfl rfl rfl rfl ?_
      refine ax_s (pc' := 2) (st' := [.int 0, .ref 5]) rfl rfl rfl rfl ?_
      refine ax_put rfl (hh_5 _ _ _) rfl rfl (show 12 + 1 ≤ _ from Nat.le_of_ble_eq_true rfl) rfl (am_hh_set _ _ _ 5 12 _ rfl) ?_
      refine ax_s (pc' := 6) (st' := [.int (S 17 a)]) rfl rfl rfl rfl ?_
      refine ax_r rfl rfl rfl ?_
      show am_ex (d + 4) 24 39 [some (.ref 5), some (.int (nI a))] [.int (S 17 a)] (am_hh X (am_u (am_u S 17 a (-1)) 5 12 0) L) _
      refine ax_r rfl rfl rfl ?_
      exact k1
    · refine ax_s (pc' := 22) (st' := [.ref 5]) rfl rfl rfl rfl ?_
      refine ax_s (pc' := 23) (st' := [.int 1, .ref 5]) rfl rfl rfl rfl ?_
      refine ax_call (vs := [.ref 5, .int 1]) (rr := []) rfl rfl rfl ?_
      refine ax_in (ls := [some (.ref 5), some (.int 1)]) rfl ?_
      refine ax_s (pc' := 1) (st' := [.ref 5]) rfl rfl rfl rfl ?_
      refine ax_s (pc' := 2) (st' := [.int 1, .ref 5]) rfl rfl rfl rfl ?_
      refine ax_put rfl (hh_5 _ _ _) rfl rfl (show 12 + 1 ≤ _ from Nat.le_of_ble_eq_true rfl) rfl (am_hh_set _ _ _ 5 12 _ rfl) ?_
      refine ax_s (pc' := 8) (st' := [.int (-1000010)]) rfl rfl rfl rfl ?_
      refine ax_s (pc' := 9) (st' := [.int 1, .int (-1000010)]) rfl rfl rfl rfl ?_
      refine ax_s (pc' := 10) (st' := [.int ((-1000010) - 1)]) rfl rfl rfl rfl ?_
      refine ax_r rfl rfl rfl ?_
      show am_ex (d + 4) 24 26 [some (.ref 5), some (.int (nI a))] [.int ((-1000010) - 1)] (am_hh X (am_u S 5 12 1) L) _
      refine ax_r rfl rfl rfl ?_
      first | exact absurd (hg.2) c2 | exact absurd c2 (hg.2) | exact absurd (hg.2) (ne_true_of_eq_false c2)
  · refine ax_s (pc' := 9) (st' := [.int (-1000001)]) rfl rfl rfl rfl ?_
    refine ax_r rfl rfl rfl ?_
    first | exact absurd (hg.1) c1 | exact absurd c1 (hg.1) | exact absurd (hg.1) (ne_true_of_eq_false c1)
theorem wv_m_drop {d : Nat} {X : Nat × (Nat → Int32)} {S : Nat → Nat → Int32} {L : Nat → Int64} {a : Nat} {Q : Option Value → am_H → Prop}  (hg : (¬ (nI a) < 0 ∧ ¬ 7 < (nI a)) ∧ 0 ≤ (S 287 a)) (x1 : ¬ (nI a) < 0 ∧ ¬ 7 < (nI a) → a < 8) (x2 : a < 8) (k1 : Q (some (.int (S 287 a))) (am_hh X (am_u (am_u S 285 3 0) 287 a (-1)) L)) : am_mt (d + 4) 156 [.ref 285, .int (nI a)] (am_hh X S L) Q := by
  refine ax_in (ls := [some (.ref 285), some (.int (nI a)), none]) rfl ?_
  refine ax_s (pc' := 1) (st' := [.ref 285]) rfl rfl rfl rfl ?_
  refine ax_s (pc' := 2) (st' := [.int (nI a), .ref 285]) rfl rfl rfl rfl ?_
  refine ax_call (vs := [.ref 285, .int (nI a)]) (rr := []) rfl rfl rfl ?_
  refine mt_isRow ?_
  show am_ex (d + 4) 156 5 [some (.ref 285), some (.int (nI a)), none] [.int (bI (decide (¬ (nI a) < 0 ∧ ¬ 7 < (nI a))))] (am_hh X S L) _
  refine ax_pT rfl (fun c1 => ?_) (fun c1 => ?_)
  · refine ax_s (pc' := 12) (st' := [.ref 285]) rfl rfl rfl rfl ?_
    refine ax_get rfl (hh_285 _ _ _) rfl rfl rfl ?_
    show am_ex (d + 4) 156 15 [some (.ref 285), some (.int (nI a)), none] [.ref 287] (am_hh X S L) _
    refine ax_s (pc' := 16) (st' := [.int (nI a), .ref 287]) rfl rfl rfl rfl ?_
    refine ax_ald (j := a) (v := (S 287 a)) rfl (hh_287 _ _ _) rfl rfl (x1 c1) (by decide) rfl ?_
    refine ax_if_ge rfl (fun c2 => ?_) (fun c2 => ?_)
    · refine ax_s (pc' := 27) (st' := [.ref 285]) rfl rfl rfl rfl ?_
      refine ax_s (pc' := 28) (st' := [.int 0, .ref 285]) rfl rfl rfl rfl ?_
      refine ax_put rfl (hh_285 _ _ _) rfl rfl (show 3 + 1 ≤ _ from Nat.le_of_ble_eq_true rfl) rfl (am_hh_set _ _ _ 285 3 _ rfl) ?_
      refine ax_s (pc' := 32) (st' := [.ref 285]) rfl rfl rfl rfl ?_
      refine ax_get rfl (hh_285 _ _ _) rfl rfl rfl ?_
      show am_ex (d + 4) 156 35 [some (.ref 285), some (.int (nI a)), none] [.ref 287] (am_hh X (am_u S 285 3 0) L) _
      refine ax_s (pc' := 36) (st' := [.int (nI a), .ref 287]) rfl rfl rfl rfl ?_
      refine ax_ald (j := a) (v := (S 287 a)) rfl (hh_287 _ _ _) rfl rfl x2 (by decide) rfl ?_
      refine ax_s (pc' := 38) (ls' := [some (.ref 285), some (.int (nI a)), some (.int (S 287 a))]) (st' := []) rfl rfl rfl rfl ?_
      refine ax_s (pc' := 39) (st' := [.ref 285]) rfl rfl rfl rfl ?_
      refine ax_get rfl (hh_285 _ _ _) rfl rfl rfl ?_
      show am_ex (d + 4) 156 42 [some (.ref 285), some (.int (nI a)), some (.int (S 287 a))] [.ref 287] (am_hh X (am_u S 285 3 0) L) _
      refine ax_s (pc' := 43) (st' := [.int (nI a), .ref 287]) rfl rfl rfl rfl ?_
      refine ax_s (pc' := 44) (st' := [.int (-1), .int (nI a), .ref 287]) rfl rfl rfl rfl ?_
      refine ax_ast (j := a) rfl (hh_287 _ _ _) rfl rfl x2 (by decide) (am_hh_set _ _ _ 287 a _ rfl) ?_
      refine ax_s (pc' := 46) (st' := [.int (S 287 a)]) rfl rfl rfl rfl ?_
      refine ax_r rfl rfl rfl ?_
      exact k1
    · refine ax_s (pc' := 21) (st' := [.ref 285]) rfl rfl rfl rfl ?_
      refine ax_s (pc' := 22) (st' := [.int 1, .ref 285]) rfl rfl rfl rfl ?_
      refine ax_call (vs := [.ref 285, .int 1]) (rr := []) rfl rfl rfl ?_
      refine ax_in (ls := [some (.ref 285), some (.int 1)]) rfl ?_
      refine ax_s (pc' := 1) (st' := [.ref 285]) rfl rfl rfl rfl ?_
      refine ax_s (pc' := 2) (st' := [.int 1, .ref 285]) rfl rfl rfl rfl ?_
      refine ax_put rfl (hh_285 _ _ _) rfl rfl (show 3 + 1 ≤ _ from Nat.le_of_ble_eq_true rfl) rfl (am_hh_set _ _ _ 285 3 _ rfl) ?_
      refine ax_s (pc' := 7) (st' := [.int (-1000010)]) rfl rfl rfl rfl ?_
      refine ax_s (pc' := 8) (st' := [.int 1, .int (-1000010)]) rfl rfl rfl rfl ?_
      refine ax_s (pc' := 9) (st' := [.int ((-1000010) - 1)]) rfl rfl rfl rfl ?_
      refine ax_r rfl rfl rfl ?_
      show am_ex (d + 4) 156 25 [some (.ref 285), some (.int (nI a)), none] [.int ((-1000010) - 1)] (am_hh X (am_u S 285 3 1) L) _
      refine ax_r rfl rfl rfl ?_
      first | exact absurd (hg.2) c2 | exact absurd c2 (hg.2) | exact absurd (hg.2) (ne_true_of_eq_false c2)
  · refine ax_s (pc' := 10) (st' := [.int (-1000001)]) rfl rfl rfl rfl ?_
    refine ax_r rfl rfl rfl ?_
    first | exact absurd (hg.1) c1 | exact absurd c1 (hg.1) | exact absurd (hg.1) (ne_true_of_eq_false c1)
def g_k_set (S : Nat → Nat → Int32) (p q r : Int32) : Prop := (¬ p < 0 ∧ ¬ 8 ≤ p) ∧ ¬ ((S 17 p.toNatClampNeg) = -1) ∧ (¬ q < 0 ∧ ¬ (1 : Int32) < 0 ∧ ¬ (S 17 p.toNatClampNeg) < q ∧ ¬ (S 17 p.toNatClampNeg) - q < (1 : Int32))
def eg_k_set (S : Nat → Nat → Int32) (p q r : Int32) : Int32 × (Nat → Nat → Int32) := (if ¬ p < 0 ∧ ¬ 8 ≤ p then (if (S 17 p.toNatClampNeg) = -1 then (((-1000010) - 1), (am_u S 5 12 1)) else (if ¬ q < 0 ∧ ¬ (1 : Int32) < 0 ∧ ¬ (S 17 p.toNatClampNeg) < q ∧ ¬ (S 17 p.toNatClampNeg) - q < (1 : Int32) then (0, S) else (((-1000010) - 2), (am_u S 5 12 2)))) else ((-1000001), S))
theorem wg_k_set {d : Nat} {X : Nat × (Nat → Int32)} {S : Nat → Nat → Int32} {L : Nat → Int64} {p q r : Int32} {Q : Option Value → am_H → Prop}  (x1 : ¬ p < 0 ∧ ¬ 8 ≤ p → am_ix p 8 = true) (hb : ¬ g_k_set S p q r) (hQ : Q (some (.int (eg_k_set S p q r).1)) (am_hh X (eg_k_set S p q r).2 L)) : am_mt (d + 4) 16 [.ref 5, .int p, .int q, .int r] (am_hh X S L) Q := by
  refine ax_in (ls := [some (.ref 5), some (.int p), some (.int q), some (.int r)]) rfl ?_
  refine ax_s (pc' := 1) (st' := [.int p]) rfl rfl rfl rfl ?_
  refine ax_call (vs := [.int p]) (rr := []) rfl rfl rfl ?_
  refine ct_isRow ?_
  show am_ex (d + 4) 16 4 [some (.ref 5), some (.int p), some (.int q), some (.int r)] [.int (bI (decide (¬ p < 0 ∧ ¬ 8 ≤ p)))] (am_hh X S L) _
  refine ax_pT rfl (fun c1 => ?_) (fun c1 => ?_)
  · refine ax_s (pc' := 11) (st' := [.ref 5]) rfl rfl rfl rfl ?_
    refine ax_get rfl (hh_5 _ _ _) rfl rfl rfl ?_
    show am_ex (d + 4) 16 14 [some (.ref 5), some (.int p), some (.int q), some (.int r)] [.ref 6] (am_hh X S L) _
    refine ax_s (pc' := 15) (st' := [.int p, .ref 6]) rfl rfl rfl rfl ?_
    refine ax_call (vs := [.ref 6, .int p]) (rr := []) rfl rfl rfl ?_
    refine kt_isMissing (am_ix_nI (x1 c1)) (am_ix_lt (x1 c1)) ?_
    show am_ex (d + 4) 16 18 [some (.ref 5), some (.int p), some (.int q), some (.int r)] [.int (bI (decide ((S 17 p.toNatClampNeg) = -1)))] (am_hh X S L) _
    refine ax_pF rfl (fun c2 => ?_) (fun c2 => ?_)
    · refine ax_s (pc' := 28) (st' := [.ref 5]) rfl rfl rfl rfl ?_
      refine ax_get rfl (hh_5 _ _ _) rfl rfl rfl ?_
      show am_ex (d + 4) 16 31 [some (.ref 5), some (.int p), some (.int q), some (.int r)] [.ref 6] (am_hh X S L) _
      refine ax_s (pc' := 32) (st' := [.int p, .ref 6]) rfl rfl rfl rfl ?_
      refine ax_s (pc' := 33) (st' := [.int q, .int p, .ref 6]) rfl rfl rfl rfl ?_
      refine ax_s (pc' := 34) (st' := [.int 1, .int q, .int p, .ref 6]) rfl rfl rfl rfl ?_
      refine ax_call (vs := [.ref 6, .int p, .int q, .int 1]) (rr := []) rfl rfl rfl ?_
      refine kt_hasPlaces (am_ix_nI (x1 c1)) (am_ix_lt (x1 c1)) ?_
      show am_ex (d + 4) 16 37 [some (.ref 5), some (.int p), some (.int q), some (.int r)] [.int (bI (decide (¬ q < 0 ∧ ¬ (1 : Int32) < 0 ∧ ¬ (S 17 p.toNatClampNeg) < q ∧ ¬ (S 17 p.toNatClampNeg) - q < (1 : Int32))))] (am_hh X S L) _
      refine ax_pT rfl (fun c3 => ?_) (fun c3 => ?_)
      · exact absurd ⟨c1, c2, c3⟩ hb
      · refine ax_s (pc' := 41) (st' := [.ref 5]) rfl rfl rfl rfl ?_
        refine ax_s (pc' := 42) (st' := [.int 2, .ref 5]) rfl rfl rfl rfl ?_
        refine ax_call (vs := [.ref 5, .int 2]) (rr := []) rfl rfl rfl ?_
        refine ax_in (ls := [some (.ref 5), some (.int 2)]) rfl ?_
        refine ax_s (pc' := 1) (st' := [.ref 5]) rfl rfl rfl rfl ?_
        refine ax_s (pc' := 2) (st' := [.int 2, .ref 5]) rfl rfl rfl rfl ?_
        refine ax_put rfl (hh_5 _ _ _) rfl rfl (show 12 + 1 ≤ _ from Nat.le_of_ble_eq_true rfl) rfl (am_hh_set _ _ _ 5 12 _ rfl) ?_
        refine ax_s (pc' := 8) (st' := [.int (-1000010)]) rfl rfl rfl rfl ?_
        refine ax_s (pc' := 9) (st' := [.int 2, .int (-1000010)]) rfl rfl rfl rfl ?_
        refine ax_s (pc' := 10) (st' := [.int ((-1000010) - 2)]) rfl rfl rfl rfl ?_
        refine ax_r rfl rfl rfl ?_
        show am_ex (d + 4) 16 45 [some (.ref 5), some (.int p), some (.int q), some (.int r)] [.int ((-1000010) - 2)] (am_hh X (am_u S 5 12 2) L) _
        refine ax_r rfl rfl rfl ?_
        unfold eg_k_set at hQ
        rw [if_pos c1, if_neg c2, if_neg c3] at hQ
        exact hQ
    · refine ax_s (pc' := 22) (st' := [.ref 5]) rfl rfl rfl rfl ?_
      refine ax_s (pc' := 23) (st' := [.int 1, .ref 5]) rfl rfl rfl rfl ?_
      refine ax_call (vs := [.ref 5, .int 1]) (rr := []) rfl rfl rfl ?_
      refine ax_in (ls := [some (.ref 5), some (.int 1)]) rfl ?_
      refine ax_s (pc' := 1) (st' := [.ref 5]) rfl rfl rfl rfl ?_
      refine ax_s (pc' := 2) (st' := [.int 1, .ref 5]) rfl rfl rfl rfl ?_
      refine ax_put rfl (hh_5 _ _ _) rfl rfl (show 12 + 1 ≤ _ from Nat.le_of_ble_eq_true rfl) rfl (am_hh_set _ _ _ 5 12 _ rfl) ?_
      refine ax_s (pc' := 8) (st' := [.int (-1000010)]) rfl rfl rfl rfl ?_
      refine ax_s (pc' := 9) (st' := [.int 1, .int (-1000010)]) rfl rfl rfl rfl ?_
      refine ax_s (pc' := 10) (st' := [.int ((-1000010) - 1)]) rfl rfl rfl rfl ?_
      refine ax_r rfl rfl rfl ?_
      show am_ex (d + 4) 16 26 [some (.ref 5), some (.int p), some (.int q), some (.int r)] [.int ((-1000010) - 1)] (am_hh X (am_u S 5 12 1) L) _
      refine ax_r rfl rfl rfl ?_
      unfold eg_k_set at hQ
      rw [if_pos c1, if_pos c2] at hQ
      exact hQ
  · refine ax_s (pc' := 9) (st' := [.int (-1000001)]) rfl rfl rfl rfl ?_
    refine ax_r rfl rfl rfl ?_
    unfold eg_k_set at hQ
    rw [if_neg c1] at hQ
    exact hQ
def g_m_set (S : Nat → Nat → Int32) (p q r : Int32) : Prop := (¬ p < 0 ∧ ¬ 7 < p) ∧ 0 ≤ (S 287 (p).toNatClampNeg) ∧ (¬ q < 0 ∧ ¬ ((S 287 (p).toNatClampNeg) - 1) < q)
def eg_m_set (S : Nat → Nat → Int32) (p q r : Int32) : Int32 × (Nat → Nat → Int32) := (if ¬ p < 0 ∧ ¬ 7 < p then (if 0 ≤ (S 287 (p).toNatClampNeg) then (if ¬ q < 0 ∧ ¬ ((S 287 (p).toNatClampNeg) - 1) < q then (0, S) else (((-1000010) - 2), (am_u S 285 3 2))) else (((-1000010) - 1), (am_u S 285 3 1))) else ((-1000001), S))
theorem wg_m_set {d : Nat} {X : Nat × (Nat → Int32)} {S : Nat → Nat → Int32} {L : Nat → Int64} {p q r : Int32} {Q : Option Value → am_H → Prop}  (x1 : ¬ p < 0 ∧ ¬ 7 < p → am_ix p 8 = true) (hb : ¬ g_m_set S p q r) (hQ : Q (some (.int (eg_m_set S p q r).1)) (am_hh X (eg_m_set S p q r).2 L)) : am_mt (d + 4) 152 [.ref 285, .int p, .int q, .int r] (am_hh X S L) Q := by
  refine ax_in (ls := [some (.ref 285), some (.int p), some (.int q), some (.int r)]) rfl ?_
  refine ax_s (pc' := 1) (st' := [.ref 285]) rfl rfl rfl rfl ?_
  refine ax_s (pc' := 2) (st' := [.int p, .ref 285]) rfl rfl rfl rfl ?_
  refine ax_call (vs := [.ref 285, .int p]) (rr := []) rfl rfl rfl ?_
  refine mt_isRow ?_
  show am_ex (d + 4) 152 5 [some (.ref 285), some (.int p), some (.int q), some (.int r)] [.int (bI (decide (¬ p < 0 ∧ ¬ 7 < p)))] (am_hh X S L) _
  refine ax_pT rfl (fun c1 => ?_) (fun c1 => ?_)
  · refine ax_s (pc' := 12) (st' := [.ref 285]) rfl rfl rfl rfl ?_
    refine ax_get rfl (hh_285 _ _ _) rfl rfl rfl ?_
    show am_ex (d + 4) 152 15 [some (.ref 285), some (.int p), some (.int q), some (.int r)] [.ref 287] (am_hh X S L) _
    refine ax_s (pc' := 16) (st' := [.int p, .ref 287]) rfl rfl rfl rfl ?_
    refine ax_ald' (v := (S 287 (p).toNatClampNeg)) rfl (hh_287 _ _ _) rfl (x1 c1) rfl ?_
    refine ax_if_ge rfl (fun c2 => ?_) (fun c2 => ?_)
    · refine ax_s (pc' := 27) (st' := [.int q]) rfl rfl rfl rfl ?_
      refine ax_s (pc' := 28) (st' := [.int 0, .int q]) rfl rfl rfl rfl ?_
      refine ax_s (pc' := 29) (st' := [.ref 285, .int 0, .int q]) rfl rfl rfl rfl ?_
      refine ax_get rfl (hh_285 _ _ _) rfl rfl rfl ?_
      show am_ex (d + 4) 152 32 [some (.ref 285), some (.int p), some (.int q), some (.int r)] [.ref 287, .int 0, .int q] (am_hh X S L) _
      refine ax_s (pc' := 33) (st' := [.int p, .ref 287, .int 0, .int q]) rfl rfl rfl rfl ?_
      refine ax_ald' (v := (S 287 (p).toNatClampNeg)) rfl (hh_287 _ _ _) rfl (x1 c1) rfl ?_
      refine ax_s (pc' := 35) (st' := [.int 1, .int (S 287 (p).toNatClampNeg), .int 0, .int q]) rfl rfl rfl rfl ?_
      refine ax_s (pc' := 36) (st' := [.int ((S 287 (p).toNatClampNeg) - 1), .int 0, .int q]) rfl rfl rfl rfl ?_
      refine ax_call (vs := [.int q, .int 0, .int ((S 287 (p).toNatClampNeg) - 1)]) (rr := []) rfl rfl rfl ?_
      refine mt_in ?_
      show am_ex (d + 4) 152 39 [some (.ref 285), some (.int p), some (.int q), some (.int r)] [.int (bI (decide (¬ q < 0 ∧ ¬ ((S 287 (p).toNatClampNeg) - 1) < q)))] (am_hh X S L) _
      refine ax_pT rfl (fun c3 => ?_) (fun c3 => ?_)
      · exact absurd ⟨c1, c2, c3⟩ hb
      · refine ax_s (pc' := 43) (st' := [.ref 285]) rfl rfl rfl rfl ?_
        refine ax_s (pc' := 44) (st' := [.int 2, .ref 285]) rfl rfl rfl rfl ?_
        refine ax_call (vs := [.ref 285, .int 2]) (rr := []) rfl rfl rfl ?_
        refine ax_in (ls := [some (.ref 285), some (.int 2)]) rfl ?_
        refine ax_s (pc' := 1) (st' := [.ref 285]) rfl rfl rfl rfl ?_
        refine ax_s (pc' := 2) (st' := [.int 2, .ref 285]) rfl rfl rfl rfl ?_
        refine ax_put rfl (hh_285 _ _ _) rfl rfl (show 3 + 1 ≤ _ from Nat.le_of_ble_eq_true rfl) rfl (am_hh_set _ _ _ 285 3 _ rfl) ?_
        refine ax_s (pc' := 7) (st' := [.int (-1000010)]) rfl rfl rfl rfl ?_
        refine ax_s (pc' := 8) (st' := [.int 2, .int (-1000010)]) rfl rfl rfl rfl ?_
        refine ax_s (pc' := 9) (st' := [.int ((-1000010) - 2)]) rfl rfl rfl rfl ?_
        refine ax_r rfl rfl rfl ?_
        show am_ex (d + 4) 152 47 [some (.ref 285), some (.int p), some (.int q), some (.int r)] [.int ((-1000010) - 2)] (am_hh X (am_u S 285 3 2) L) _
        refine ax_r rfl rfl rfl ?_
        unfold eg_m_set at hQ
        rw [if_pos c1, if_pos c2, if_neg c3] at hQ
        exact hQ
    · refine ax_s (pc' := 21) (st' := [.ref 285]) rfl rfl rfl rfl ?_
      refine ax_s (pc' := 22) (st' := [.int 1, .ref 285]) rfl rfl rfl rfl ?_
      refine ax_call (vs := [.ref 285, .int 1]) (rr := []) rfl rfl rfl ?_
      refine ax_in (ls := [some (.ref 285), some (.int 1)]) rfl ?_
      refine ax_s (pc' := 1) (st' := [.ref 285]) rfl rfl rfl rfl ?_
      refine ax_s (pc' := 2) (st' := [.int 1, .ref 285]) rfl rfl rfl rfl ?_
      refine ax_put rfl (hh_285 _ _ _) rfl rfl (show 3 + 1 ≤ _ from Nat.le_of_ble_eq_true rfl) rfl (am_hh_set _ _ _ 285 3 _ rfl) ?_
      refine ax_s (pc' := 7) (st' := [.int (-1000010)]) rfl rfl rfl rfl ?_
      refine ax_s (pc' := 8) (st' := [.int 1, .int (-1000010)]) rfl rfl rfl rfl ?_
      refine ax_s (pc' := 9) (st' := [.int ((-1000010) - 1)]) rfl rfl rfl rfl ?_
      refine ax_r rfl rfl rfl ?_
      show am_ex (d + 4) 152 25 [some (.ref 285), some (.int p), some (.int q), some (.int r)] [.int ((-1000010) - 1)] (am_hh X (am_u S 285 3 1) L) _
      refine ax_r rfl rfl rfl ?_
      unfold eg_m_set at hQ
      rw [if_pos c1, if_neg c2] at hQ
      exact hQ
  · refine ax_s (pc' := 10) (st' := [.int (-1000001)]) rfl rfl rfl rfl ?_
    refine ax_r rfl rfl rfl ?_
    unfold eg_m_set at hQ
    rw [if_neg c1] at hQ
    exact hQ
theorem wv_k_set {d : Nat} {X : Nat × (Nat → Int32)} {S : Nat → Nat → Int32} {L : Nat → Int64} {a i : Nat} {r : Int32} {Q : Option Value → am_H → Prop}  (hg : (¬ (nI a) < 0 ∧ ¬ 8 ≤ (nI a)) ∧ ¬ ((S 17 a) = -1) ∧ (¬ (nI i) < 0 ∧ ¬ (1 : Int32) < 0 ∧ ¬ (S 17 a) < (nI i) ∧ ¬ (S 17 a) - (nI i) < (1 : Int32))) (x1 : ¬ (nI a) < 0 ∧ ¬ 8 ≤ (nI a) → a < 8) (x2 : a < 8) (x3 : (S 16 a) = 0 → i < 40) (x4 : ¬ (S 16 a) = 0 → (S 16 a) = 1 → i < 40) (x5 : ¬ (S 16 a) = 0 → ¬ (S 16 a) = 1 → i < 40) (k1 : (S 16 a) = 0 → Q (some (.int r.toInt8.toInt32)) (am_hh X (am_u (am_u S (8 + 1 * a) i r.toInt8.toInt32) 5 12 0) L)) (k2 : ¬ (S 16 a) = 0 → (S 16 a) = 1 → Q (some (.int r.toInt16.toInt32)) (am_hh X (am_u (am_u S (8 + 1 * a) i r.toInt16.toInt32) 5 12 0) L)) (k3 : ¬ (S 16 a) = 0 → ¬ (S 16 a) = 1 → Q (some (.int r)) (am_hh X (am_u (am_u S (8 + 1 * a) i r) 5 12 0) L)) : am_mt (d + 4) 16 [.ref 5, .int (nI a), .int (nI i), .int r] (am_hh X S L) Q := by
  refine ax_in (ls := [some (.ref 5), some (.int (nI a)), some (.int (nI i)), some (.int r)]) rfl ?_
  refine ax_s (pc' := 1) (st' := [.int (nI a)]) rfl rfl rfl rfl ?_
  refine ax_call (vs := [.int (nI a)]) (rr := []) rfl rfl rfl ?_
  refine ct_isRow ?_
  show am_ex (d + 4) 16 4 [some (.ref 5), some (.int (nI a)), some (.int (nI i)), some (.int r)] [.int (bI (decide (¬ (nI a) < 0 ∧ ¬ 8 ≤ (nI a))))] (am_hh X S L) _
  refine ax_pT rfl (fun c1 => ?_) (fun c1 => ?_)
  · refine ax_s (pc' := 11) (st' := [.ref 5]) rfl rfl rfl rfl ?_
    refine ax_get rfl (hh_5 _ _ _) rfl rfl rfl ?_
    show am_ex (d + 4) 16 14 [some (.ref 5), some (.int (nI a)), some (.int (nI i)), some (.int r)] [.ref 6] (am_hh X S L) _
    refine ax_s (pc' := 15) (st' := [.int (nI a), .ref 6]) rfl rfl rfl rfl ?_
    refine ax_call (vs := [.ref 6, .int (nI a)]) (rr := []) rfl rfl rfl ?_
    refine kt_isMissing rfl (x1 c1) ?_
    show am_ex (d + 4) 16 18 [some (.ref 5), some (.int (nI a)), some (.int (nI i)), some (.int r)] [.int (bI (decide ((S 17 a) = -1)))] (am_hh X S L) _
    refine ax_pF rfl (fun c2 => ?_) (fun c2 => ?_)
    · refine ax_s (pc' := 28) (st' := [.ref 5]) rfl rfl rfl rfl ?_
      refine ax_get rfl (hh_5 _ _ _) rfl rfl rfl ?_
      show am_ex (d + 4) 16 31 [some (.ref 5), some (.int (nI a)), some (.int (nI i)), some (.int r)] [.ref 6] (am_hh X S L) _
      refine ax_s (pc' := 32) (st' := [.int (nI a), .ref 6]) rfl rfl rfl rfl ?_
      refine ax_s (pc' := 33) (st' := [.int (nI i), .int (nI a), .ref 6]) rfl rfl rfl rfl ?_
      refine ax_s (pc' := 34) (st' := [.int 1, .int (nI i), .int (nI a), .ref 6]) rfl rfl rfl rfl ?_
      refine ax_call (vs := [.ref 6, .int (nI a), .int (nI i), .int 1]) (rr := []) rfl rfl rfl ?_
      refine kt_hasPlaces rfl (x1 c1) ?_
      show am_ex (d + 4) 16 37 [some (.ref 5), some (.int (nI a)), some (.int (nI i)), some (.int r)] [.int (bI (decide (¬ (nI i) < 0 ∧ ¬ (1 : Int32) < 0 ∧ ¬ (S 17 a) < (nI i) ∧ ¬ (S 17 a) - (nI i) < (1 : Int32))))] (am_hh X S L) _
      refine ax_pT rfl (fun c3 => ?_) (fun c3 => ?_)
      · refine ax_s (pc' := 47) (st' := [.ref 5]) rfl rfl rfl rfl ?_
        refine ax_s (pc' := 48) (st' := [.ref 5, .ref 5]) rfl rfl rfl rfl ?_
        refine ax_get rfl (hh_5 _ _ _) rfl rfl rfl ?_
        show am_ex (d + 4) 16 51 [some (.ref 5), some (.int (nI a)), some (.int (nI i)), some (.int r)] [.ref 6, .ref 5] (am_hh X S L) _
        refine ax_s (pc' := 52) (st' := [.int (nI a), .ref 6, .ref 5]) rfl rfl rfl rfl ?_
        refine ax_s (pc' := 53) (st' := [.int (nI i), .int (nI a), .ref 6, .ref 5]) rfl rfl rfl rfl ?_
        refine ax_s (pc' := 54) (st' := [.int r, .int (nI i), .int (nI a), .ref 6, .ref 5]) rfl rfl rfl rfl ?_
        refine ax_call (vs := [.ref 6, .int (nI a), .int (nI i), .int r]) (rr := [.ref 5]) rfl rfl rfl ?_
        refine ax_in (ls := [some (.ref 6), some (.int (nI a)), some (.int (nI i)), some (.int r), none]) rfl ?_
        refine ax_s (pc' := 1) (st' := [.ref 6]) rfl rfl rfl rfl ?_
        refine ax_get rfl (hh_6 _ _ _) rfl rfl rfl ?_
        show am_ex (d + 3) 19 4 [some (.ref 6), some (.int (nI a)), some (.int (nI i)), some (.int r), none] [.ref 16] (am_hh X S L) _
        refine ax_s (pc' := 5) (st' := [.int (nI a), .ref 16]) rfl rfl rfl rfl ?_
        refine ax_ald (j := a) (v := (S 16 a)) rfl (hh_16 _ _ _) rfl rfl x2 (by decide) rfl ?_
        refine ax_s (pc' := 7) (st' := [.int r, .int (S 16 a)]) rfl rfl rfl rfl ?_
        refine ax_call (vs := [.int (S 16 a), .int r]) (rr := []) rfl rfl rfl ?_
        refine ax_in (ls := [some (.int (S 16 a)), some (.int r)]) rfl ?_
        refine ax_s (pc' := 1) (st' := [.int (S 16 a)]) rfl rfl rfl rfl ?_
        by_cases c4 : (S 16 a) = 0
        · refine ax_s (pc' := 28) (ls' := [some (.int (S 16 a)), some (.int r)]) (st' := []) (h1 := (am_hh X S L)) rfl (by rw [c4]; rfl) rfl rfl ?_
          refine ax_s (pc' := 29) (st' := [.int r]) rfl rfl rfl rfl ?_
          refine ax_s (pc' := 30) (st' := [.int r.toInt8.toInt32]) rfl rfl rfl rfl ?_
          refine ax_r rfl rfl rfl ?_
          show am_ex (d + 3) 19 10 [some (.ref 6), some (.int (nI a)), some (.int (nI i)), some (.int r), none] [.int r.toInt8.toInt32] (am_hh X S L) _
          refine ax_s (pc' := 12) (ls' := [some (.ref 6), some (.int (nI a)), some (.int (nI i)), some (.int r), some (.int r.toInt8.toInt32)]) (st' := []) rfl rfl rfl rfl ?_
          refine ax_s (pc' := 13) (st' := [.ref 6]) rfl rfl rfl rfl ?_
          refine ax_get rfl (hh_6 _ _ _) rfl rfl rfl ?_
          show am_ex (d + 3) 19 16 [some (.ref 6), some (.int (nI a)), some (.int (nI i)), some (.int r), some (.int r.toInt8.toInt32)] [.ref 7] (am_hh X S L) _
          refine ax_s (pc' := 17) (st' := [.int (nI a), .ref 7]) rfl rfl rfl rfl ?_
          refine ax_qld (j := a) (b := (8 + 1 * a)) rfl (hh_7 _ _ _) rfl (by decide) rfl x2 (by decide) (if_pos x2) ?_
          refine ax_s (pc' := 19) (st' := [.int (nI i), .ref (8 + 1 * a)]) rfl rfl rfl rfl ?_
          refine ax_s (pc' := 21) (st' := [.int r.toInt8.toInt32, .int (nI i), .ref (8 + 1 * a)]) rfl rfl rfl rfl ?_
          refine ax_ast (j := i) rfl (hh_row _ _ _ x2) (hh_rowm _ _ _ x2) rfl (x3 c4) (by decide) (am_hh_set _ _ _ (8 + 1 * a) i _ (am_rowc _ _ x2 _).symm) ?_
          refine ax_s (pc' := 24) (st' := [.int r.toInt8.toInt32]) rfl rfl rfl rfl ?_
          refine ax_r rfl rfl rfl ?_
          show am_ex (d + 4) 16 57 [some (.ref 5), some (.int (nI a)), some (.int (nI i)), some (.int r)] [.int r.toInt8.toInt32, .ref 5] (am_hh X (am_u S (8 + 1 * a) i r.toInt8.toInt32) L) _
          refine ax_call (vs := [.ref 5, .int r.toInt8.toInt32]) (rr := []) rfl rfl rfl ?_
          refine ax_in (ls := [some (.ref 5), some (.int r.toInt8.toInt32)]) rfl ?_
          refine ax_s (pc' := 1) (st' := [.ref 5]) rfl rfl rfl rfl ?_
          refine ax_s (pc' := 2) (st' := [.int 0, .ref 5]) rfl rfl rfl rfl ?_
          refine ax_put rfl (hh_5 _ _ _) rfl rfl (show 12 + 1 ≤ _ from Nat.le_of_ble_eq_true rfl) rfl (am_hh_set _ _ _ 5 12 _ rfl) ?_
          refine ax_s (pc' := 6) (st' := [.int r.toInt8.toInt32]) rfl rfl rfl rfl ?_
          refine ax_r rfl rfl rfl ?_
          show am_ex (d + 4) 16 60 [some (.ref 5), some (.int (nI a)), some (.int (nI i)), some (.int r)] [.int r.toInt8.toInt32] (am_hh X (am_u (am_u S (8 + 1 * a) i r.toInt8.toInt32) 5 12 0) L) _
          refine ax_r rfl rfl rfl ?_
          exact k1 c4
        by_cases c5 : (S 16 a) = 1
        · refine ax_s (pc' := 31) (ls' := [some (.int (S 16 a)), some (.int r)]) (st' := []) (h1 := (am_hh X S L)) rfl (by rw [c5]; rfl) rfl rfl ?_
          refine ax_s (pc' := 32) (st' := [.int r]) rfl rfl rfl rfl ?_
          refine ax_s (pc' := 33) (st' := [.int r.toInt16.toInt32]) rfl rfl rfl rfl ?_
          refine ax_r rfl rfl rfl ?_
          show am_ex (d + 3) 19 10 [some (.ref 6), some (.int (nI a)), some (.int (nI i)), some (.int r), none] [.int r.toInt16.toInt32] (am_hh X S L) _
          refine ax_s (pc' := 12) (ls' := [some (.ref 6), some (.int (nI a)), some (.int (nI i)), some (.int r), some (.int r.toInt16.toInt32)]) (st' := []) rfl rfl rfl rfl ?_
          refine ax_s (pc' := 13) (st' := [.ref 6]) rfl rfl rfl rfl ?_
          refine ax_get rfl (hh_6 _ _ _) rfl rfl rfl ?_
          show am_ex (d + 3) 19 16 [some (.ref 6), some (.int (nI a)), some (.int (nI i)), some (.int r), some (.int r.toInt16.toInt32)] [.ref 7] (am_hh X S L) _
          refine ax_s (pc' := 17) (st' := [.int (nI a), .ref 7]) rfl rfl rfl rfl ?_
          refine ax_qld (j := a) (b := (8 + 1 * a)) rfl (hh_7 _ _ _) rfl (by decide) rfl x2 (by decide) (if_pos x2) ?_
          refine ax_s (pc' := 19) (st' := [.int (nI i), .ref (8 + 1 * a)]) rfl rfl rfl rfl ?_
          refine ax_s (pc' := 21) (st' := [.int r.toInt16.toInt32, .int (nI i), .ref (8 + 1 * a)]) rfl rfl rfl rfl ?_
          refine ax_ast (j := i) rfl (hh_row _ _ _ x2) (hh_rowm _ _ _ x2) rfl (x4 c4 c5) (by decide) (am_hh_set _ _ _ (8 + 1 * a) i _ (am_rowc _ _ x2 _).symm) ?_
          refine ax_s (pc' := 24) (st' := [.int r.toInt16.toInt32]) rfl rfl rfl rfl ?_
          refine ax_r rfl rfl rfl ?_
          show am_ex (d + 4) 16 57 [some (.ref 5), some (.int (nI a)), some (.int (nI i)), some (.int r)] [.int r.toInt16.toInt32, .ref 5] (am_hh X (am_u S (8 + 1 * a) i r.toInt16.toInt32) L) _
          refine ax_call (vs := [.ref 5, .int r.toInt16.toInt32]) (rr := []) rfl rfl rfl ?_
          refine ax_in (ls := [some (.ref 5), some (.int r.toInt16.toInt32)]) rfl ?_
          refine ax_s (pc' := 1) (st' := [.ref 5]) rfl rfl rfl rfl ?_
          refine ax_s (pc' := 2) (st' := [.int 0, .ref 5]) rfl rfl rfl rfl ?_
          refine ax_put rfl (hh_5 _ _ _) rfl rfl (show 12 + 1 ≤ _ from Nat.le_of_ble_eq_true rfl) rfl (am_hh_set _ _ _ 5 12 _ rfl) ?_
          refine ax_s (pc' := 6) (st' := [.int r.toInt16.toInt32]) rfl rfl rfl rfl ?_
          refine ax_r rfl rfl rfl ?_
          show am_ex (d + 4) 16 60 [some (.ref 5), some (.int (nI a)), some (.int (nI i)), some (.int r)] [.int r.toInt16.toInt32] (am_hh X (am_u (am_u S (8 + 1 * a) i r.toInt16.toInt32) 5 12 0) L) _
          refine ax_r rfl rfl rfl ?_
          exact k2 c4 c5
        refine ax_s (pc' := 34) (ls' := [some (.int (S 16 a)), some (.int r)]) (st' := []) (h1 := (am_hh X S L)) rfl (am_lsw (by decide) (by simp [Op.lookupswitch.offset, (show ¬ (0 : Int) = Int32.toInt (S 16 a) from fun q => lv_neT c4 (by decide) q.symm), (show ¬ (1 : Int) = Int32.toInt (S 16 a) from fun q => lv_neT c5 (by decide) q.symm)]) (by decide)) rfl rfl ?_
        refine ax_s (pc' := 35) (st' := [.int r]) rfl rfl rfl rfl ?_
        refine ax_r rfl rfl rfl ?_
        show am_ex (d + 3) 19 10 [some (.ref 6), some (.int (nI a)), some (.int (nI i)), some (.int r), none] [.int r] (am_hh X S L) _
        refine ax_s (pc' := 12) (ls' := [some (.ref 6), some (.int (nI a)), some (.int (nI i)), some (.int r), some (.int r)]) (st' := []) rfl rfl rfl rfl ?_
        refine ax_s (pc' := 13) (st' := [.ref 6]) rfl rfl rfl rfl ?_
        refine ax_get rfl (hh_6 _ _ _) rfl rfl rfl ?_
        show am_ex (d + 3) 19 16 [some (.ref 6), some (.int (nI a)), some (.int (nI i)), some (.int r), some (.int r)] [.ref 7] (am_hh X S L) _
        refine ax_s (pc' := 17) (st' := [.int (nI a), .ref 7]) rfl rfl rfl rfl ?_
        refine ax_qld (j := a) (b := (8 + 1 * a)) rfl (hh_7 _ _ _) rfl (by decide) rfl x2 (by decide) (if_pos x2) ?_
        refine ax_s (pc' := 19) (st' := [.int (nI i), .ref (8 + 1 * a)]) rfl rfl rfl rfl ?_
        refine ax_s (pc' := 21) (st' := [.int r, .int (nI i), .ref (8 + 1 * a)]) rfl rfl rfl rfl ?_
        refine ax_ast (j := i) rfl (hh_row _ _ _ x2) (hh_rowm _ _ _ x2) rfl (x5 c4 c5) (by decide) (am_hh_set _ _ _ (8 + 1 * a) i _ (am_rowc _ _ x2 _).symm) ?_
        refine ax_s (pc' := 24) (st' := [.int r]) rfl rfl rfl rfl ?_
        refine ax_r rfl rfl rfl ?_
        show am_ex (d + 4) 16 57 [some (.ref 5), some (.int (nI a)), some (.int (nI i)), some (.int r)] [.int r, .ref 5] (am_hh X (am_u S (8 + 1 * a) i r) L) _
        refine ax_call (vs := [.ref 5, .int r]) (rr := []) rfl rfl rfl ?_
        refine ax_in (ls := [some (.ref 5), some (.int r)]) rfl ?_
        refine ax_s (pc' := 1) (st' := [.ref 5]) rfl rfl rfl rfl ?_
        refine ax_s (pc' := 2) (st' := [.int 0, .ref 5]) rfl rfl rfl rfl ?_
        refine ax_put rfl (hh_5 _ _ _) rfl rfl (show 12 + 1 ≤ _ from Nat.le_of_ble_eq_true rfl) rfl (am_hh_set _ _ _ 5 12 _ rfl) ?_
        refine ax_s (pc' := 6) (st' := [.int r]) rfl rfl rfl rfl ?_
        refine ax_r rfl rfl rfl ?_
        show am_ex (d + 4) 16 60 [some (.ref 5), some (.int (nI a)), some (.int (nI i)), some (.int r)] [.int r] (am_hh X (am_u (am_u S (8 + 1 * a) i r) 5 12 0) L) _
        refine ax_r rfl rfl rfl ?_
        exact k3 c4 c5
      · refine ax_s (pc' := 41) (st' := [.ref 5]) rfl rfl rfl rfl ?_
        refine ax_s (pc' := 42) (st' := [.int 2, .ref 5]) rfl rfl rfl rfl ?_
        refine ax_call (vs := [.ref 5, .int 2]) (rr := []) rfl rfl rfl ?_
        refine ax_in (ls := [some (.ref 5), some (.int 2)]) rfl ?_
        refine ax_s (pc' := 1) (st' := [.ref 5]) rfl rfl rfl rfl ?_
        refine ax_s (pc' := 2) (st' := [.int 2, .ref 5]) rfl rfl rfl rfl ?_
        refine ax_put rfl (hh_5 _ _ _) rfl rfl (show 12 + 1 ≤ _ from Nat.le_of_ble_eq_true rfl) rfl (am_hh_set _ _ _ 5 12 _ rfl) ?_
        refine ax_s (pc' := 8) (st' := [.int (-1000010)]) rfl rfl rfl rfl ?_
        refine ax_s (pc' := 9) (st' := [.int 2, .int (-1000010)]) rfl rfl rfl rfl ?_
        refine ax_s (pc' := 10) (st' := [.int ((-1000010) - 2)]) rfl rfl rfl rfl ?_
        refine ax_r rfl rfl rfl ?_
        show am_ex (d + 4) 16 45 [some (.ref 5), some (.int (nI a)), some (.int (nI i)), some (.int r)] [.int ((-1000010) - 2)] (am_hh X (am_u S 5 12 2) L) _
        refine ax_r rfl rfl rfl ?_
        first | exact absurd (hg.2.2) c3 | exact absurd c3 (hg.2.2) | exact absurd (hg.2.2) (ne_true_of_eq_false c3)
    · refine ax_s (pc' := 22) (st' := [.ref 5]) rfl rfl rfl rfl ?_
      refine ax_s (pc' := 23) (st' := [.int 1, .ref 5]) rfl rfl rfl rfl ?_
      refine ax_call (vs := [.ref 5, .int 1]) (rr := []) rfl rfl rfl ?_
      refine ax_in (ls := [some (.ref 5), some (.int 1)]) rfl ?_
      refine ax_s (pc' := 1) (st' := [.ref 5]) rfl rfl rfl rfl ?_
      refine ax_s (pc' := 2) (st' := [.int 1, .ref 5]) rfl rfl rfl rfl ?_
      refine ax_put rfl (hh_5 _ _ _) rfl rfl (show 12 + 1 ≤ _ from Nat.le_of_ble_eq_true rfl) rfl (am_hh_set _ _ _ 5 12 _ rfl) ?_
      refine ax_s (pc' := 8) (st' := [.int (-1000010)]) rfl rfl rfl rfl ?_
      refine ax_s (pc' := 9) (st' := [.int 1, .int (-1000010)]) rfl rfl rfl rfl ?_
      refine ax_s (pc' := 10) (st' := [.int ((-1000010) - 1)]) rfl rfl rfl rfl ?_
      refine ax_r rfl rfl rfl ?_
      show am_ex (d + 4) 16 26 [some (.ref 5), some (.int (nI a)), some (.int (nI i)), some (.int r)] [.int ((-1000010) - 1)] (am_hh X (am_u S 5 12 1) L) _
      refine ax_r rfl rfl rfl ?_
      first | exact absurd (hg.2.1) c2 | exact absurd c2 (hg.2.1) | exact absurd (hg.2.1) (ne_true_of_eq_false c2)
  · refine ax_s (pc' := 9) (st' := [.int (-1000001)]) rfl rfl rfl rfl ?_
    refine ax_r rfl rfl rfl ?_
    first | exact absurd (hg.1) c1 | exact absurd c1 (hg.1) | exact absurd (hg.1) (ne_true_of_eq_false c1)
theorem wv_m_set {d : Nat} {X : Nat × (Nat → Int32)} {S : Nat → Nat → Int32} {L : Nat → Int64} {a i : Nat} {r : Int32} {Q : Option Value → am_H → Prop}  (hg : (¬ (nI a) < 0 ∧ ¬ 7 < (nI a)) ∧ 0 ≤ (S 287 a) ∧ (¬ (nI i) < 0 ∧ ¬ ((S 287 a) - 1) < (nI i))) (x1 : ¬ (nI a) < 0 ∧ ¬ 7 < (nI a) → a < 8) (x2 : a < 8) (x3 : ¬ (S 286 a) = 0 → ¬ (S 286 a) = 1 → ((40 * a) + i) < 320) (x4 : ¬ (S 286 a) = 0 → (S 286 a) = 1 → ((40 * a) + i) < 320) (x5 : (S 286 a) = 0 → ((40 * a) + i) < 320) (k1 : ¬ (S 286 a) = 0 → ¬ (S 286 a) = 1 → Q (some (.int ((am_u (am_u S 285 3 0) 288 ((40 * a) + i) r) 288 ((40 * a) + i)))) (am_hh X (am_u (am_u S 285 3 0) 288 ((40 * a) + i) r) L)) (k2 : ¬ (S 286 a) = 0 → (S 286 a) = 1 → Q (some (.int ((am_u (am_u S 285 3 0) 288 ((40 * a) + i) ((r <<< (16 &&& 31)) >>> (16 &&& 31))) 288 ((40 * a) + i)))) (am_hh X (am_u (am_u S 285 3 0) 288 ((40 * a) + i) ((r <<< (16 &&& 31)) >>> (16 &&& 31))) L)) (k3 : (S 286 a) = 0 → Q (some (.int ((am_u (am_u S 285 3 0) 288 ((40 * a) + i) ((r <<< (24 &&& 31)) >>> (24 &&& 31))) 288 ((40 * a) + i)))) (am_hh X (am_u (am_u S 285 3 0) 288 ((40 * a) + i) ((r <<< (24 &&& 31)) >>> (24 &&& 31))) L)) : am_mt (d + 4) 152 [.ref 285, .int (nI a), .int (nI i), .int r] (am_hh X S L) Q := by
  refine ax_in (ls := [some (.ref 285), some (.int (nI a)), some (.int (nI i)), some (.int r)]) rfl ?_
  refine ax_s (pc' := 1) (st' := [.ref 285]) rfl rfl rfl rfl ?_
  refine ax_s (pc' := 2) (st' := [.int (nI a), .ref 285]) rfl rfl rfl rfl ?_
  refine ax_call (vs := [.ref 285, .int (nI a)]) (rr := []) rfl rfl rfl ?_
  refine mt_isRow ?_
  show am_ex (d + 4) 152 5 [some (.ref 285), some (.int (nI a)), some (.int (nI i)), some (.int r)] [.int (bI (decide (¬ (nI a) < 0 ∧ ¬ 7 < (nI a))))] (am_hh X S L) _
  refine ax_pT rfl (fun c1 => ?_) (fun c1 => ?_)
  · refine ax_s (pc' := 12) (st' := [.ref 285]) rfl rfl rfl rfl ?_
    refine ax_get rfl (hh_285 _ _ _) rfl rfl rfl ?_
    show am_ex (d + 4) 152 15 [some (.ref 285), some (.int (nI a)), some (.int (nI i)), some (.int r)] [.ref 287] (am_hh X S L) _
    refine ax_s (pc' := 16) (st' := [.int (nI a), .ref 287]) rfl rfl rfl rfl ?_
    refine ax_ald (j := a) (v := (S 287 a)) rfl (hh_287 _ _ _) rfl rfl (x1 c1) (by decide) rfl ?_
    refine ax_if_ge rfl (fun c2 => ?_) (fun c2 => ?_)
    · refine ax_s (pc' := 27) (st' := [.int (nI i)]) rfl rfl rfl rfl ?_
      refine ax_s (pc' := 28) (st' := [.int 0, .int (nI i)]) rfl rfl rfl rfl ?_
      refine ax_s (pc' := 29) (st' := [.ref 285, .int 0, .int (nI i)]) rfl rfl rfl rfl ?_
      refine ax_get rfl (hh_285 _ _ _) rfl rfl rfl ?_
      show am_ex (d + 4) 152 32 [some (.ref 285), some (.int (nI a)), some (.int (nI i)), some (.int r)] [.ref 287, .int 0, .int (nI i)] (am_hh X S L) _
      refine ax_s (pc' := 33) (st' := [.int (nI a), .ref 287, .int 0, .int (nI i)]) rfl rfl rfl rfl ?_
      refine ax_ald (j := a) (v := (S 287 a)) rfl (hh_287 _ _ _) rfl rfl (x1 c1) (by decide) rfl ?_
      refine ax_s (pc' := 35) (st' := [.int 1, .int (S 287 a), .int 0, .int (nI i)]) rfl rfl rfl rfl ?_
      refine ax_s (pc' := 36) (st' := [.int ((S 287 a) - 1), .int 0, .int (nI i)]) rfl rfl rfl rfl ?_
      refine ax_call (vs := [.int (nI i), .int 0, .int ((S 287 a) - 1)]) (rr := []) rfl rfl rfl ?_
      refine mt_in ?_
      show am_ex (d + 4) 152 39 [some (.ref 285), some (.int (nI a)), some (.int (nI i)), some (.int r)] [.int (bI (decide (¬ (nI i) < 0 ∧ ¬ ((S 287 a) - 1) < (nI i))))] (am_hh X S L) _
      refine ax_pT rfl (fun c3 => ?_) (fun c3 => ?_)
      · refine ax_s (pc' := 49) (st' := [.ref 285]) rfl rfl rfl rfl ?_
        refine ax_s (pc' := 50) (st' := [.int 0, .ref 285]) rfl rfl rfl rfl ?_
        refine ax_put rfl (hh_285 _ _ _) rfl rfl (show 3 + 1 ≤ _ from Nat.le_of_ble_eq_true rfl) rfl (am_hh_set _ _ _ 285 3 _ rfl) ?_
        refine ax_s (pc' := 54) (st' := [.ref 285]) rfl rfl rfl rfl ?_
        refine ax_get rfl (hh_285 _ _ _) rfl rfl rfl ?_
        show am_ex (d + 4) 152 57 [some (.ref 285), some (.int (nI a)), some (.int (nI i)), some (.int r)] [.ref 288] (am_hh X (am_u S 285 3 0) L) _
        refine ax_s (pc' := 59) (st' := [.int 40, .ref 288]) rfl rfl rfl rfl ?_
        refine ax_s (pc' := 60) (st' := [.int (nI a), .int 40, .ref 288]) rfl rfl rfl rfl ?_
        refine ax_s (pc' := 61) (st' := [.int (40 * (nI a)), .ref 288]) rfl rfl rfl rfl ?_
        refine ax_s (pc' := 62) (st' := [.int (nI i), .int (40 * (nI a)), .ref 288]) rfl rfl rfl rfl ?_
        refine ax_s (pc' := 63) (st' := [.int ((40 * (nI a)) + (nI i)), .ref 288]) rfl rfl rfl rfl ?_
        refine ax_s (pc' := 64) (st' := [.ref 285, .int ((40 * (nI a)) + (nI i)), .ref 288]) rfl rfl rfl rfl ?_
        refine ax_get rfl (hh_285 _ _ _) rfl rfl rfl ?_
        show am_ex (d + 4) 152 67 [some (.ref 285), some (.int (nI a)), some (.int (nI i)), some (.int r)] [.ref 286, .int ((40 * (nI a)) + (nI i)), .ref 288] (am_hh X (am_u S 285 3 0) L) _
        refine ax_s (pc' := 68) (st' := [.int (nI a), .ref 286, .int ((40 * (nI a)) + (nI i)), .ref 288]) rfl rfl rfl rfl ?_
        refine ax_ald (j := a) (v := (S 286 a)) rfl (hh_286 _ _ _) rfl rfl x2 (by decide) rfl ?_
        refine ax_s (pc' := 70) (st' := [.int r, .int (S 286 a), .int ((40 * (nI a)) + (nI i)), .ref 288]) rfl rfl rfl rfl ?_
        refine ax_call (vs := [.int (S 286 a), .int r]) (rr := [.int ((40 * (nI a)) + (nI i)), .ref 288]) rfl rfl rfl ?_
        refine ax_in (ls := [some (.int (S 286 a)), some (.int r)]) rfl ?_
        refine ax_s (pc' := 1) (st' := [.int (S 286 a)]) rfl rfl rfl rfl ?_
        refine ax_if_ne rfl (fun c4 => ?_) (fun c4 => ?_)
        · refine ax_s (pc' := 15) (st' := [.int (S 286 a)]) rfl rfl rfl rfl ?_
          refine ax_s (pc' := 16) (st' := [.int 1, .int (S 286 a)]) rfl rfl rfl rfl ?_
          refine ax_cmp_ne rfl (fun c5 => ?_) (fun c5 => ?_)
          · refine ax_s (pc' := 30) (st' := [.int r]) rfl rfl rfl rfl ?_
            refine ax_r rfl rfl rfl ?_
            show am_ex (d + 4) 152 73 [some (.ref 285), some (.int (nI a)), some (.int (nI i)), some (.int r)] [.int r, .int ((40 * (nI a)) + (nI i)), .ref 288] (am_hh X (am_u S 285 3 0) L) _
            refine ax_ast (j := ((40 * a) + i)) rfl (hh_288 _ _ _) rfl (am_na (x := (40 * a)) (y := i) (am_nm (x := 40) (y := a) rfl rfl) rfl) (x3 c4 c5) (by decide) (am_hh_set _ _ _ 288 ((40 * a) + i) _ rfl) ?_
            refine ax_s (pc' := 75) (st' := [.ref 285]) rfl rfl rfl rfl ?_
            refine ax_get rfl (hh_285 _ _ _) rfl rfl rfl ?_
            show am_ex (d + 4) 152 78 [some (.ref 285), some (.int (nI a)), some (.int (nI i)), some (.int r)] [.ref 288] (am_hh X (am_u (am_u S 285 3 0) 288 ((40 * a) + i) r) L) _
            refine ax_s (pc' := 80) (st' := [.int 40, .ref 288]) rfl rfl rfl rfl ?_
            refine ax_s (pc' := 81) (st' := [.int (nI a), .int 40, .ref 288]) rfl rfl rfl rfl ?_
            refine ax_s (pc' := 82) (st' := [.int (40 * (nI a)), .ref 288]) rfl rfl rfl rfl ?_
            refine ax_s (pc' := 83) (st' := [.int (nI i), .int (40 * (nI a)), .ref 288]) rfl rfl rfl rfl ?_
            refine ax_s (pc' := 84) (st' := [.int ((40 * (nI a)) + (nI i)), .ref 288]) rfl rfl rfl rfl ?_
            refine ax_ald (j := ((40 * a) + i)) (v := ((am_u (am_u S 285 3 0) 288 ((40 * a) + i) r) 288 ((40 * a) + i))) rfl (hh_288 _ _ _) rfl (am_na (x := (40 * a)) (y := i) (am_nm (x := 40) (y := a) rfl rfl) rfl) (x3 c4 c5) (by decide) rfl ?_
            refine ax_r rfl rfl rfl ?_
            exact k1 c4 c5
          · refine ax_s (pc' := 20) (st' := [.int r]) rfl rfl rfl rfl ?_
            refine ax_s (pc' := 22) (st' := [.int 16, .int r]) rfl rfl rfl rfl ?_
            refine ax_s (pc' := 23) (st' := [.int (r <<< (16 &&& 31))]) rfl rfl rfl rfl ?_
            refine ax_s (pc' := 25) (st' := [.int 16, .int (r <<< (16 &&& 31))]) rfl rfl rfl rfl ?_
            refine ax_s (pc' := 26) (st' := [.int ((r <<< (16 &&& 31)) >>> (16 &&& 31))]) rfl rfl rfl rfl ?_
            refine ax_s (pc' := 30) (st' := [.int ((r <<< (16 &&& 31)) >>> (16 &&& 31))]) rfl rfl rfl rfl ?_
            refine ax_r rfl rfl rfl ?_
            show am_ex (d + 4) 152 73 [some (.ref 285), some (.int (nI a)), some (.int (nI i)), some (.int r)] [.int ((r <<< (16 &&& 31)) >>> (16 &&& 31)), .int ((40 * (nI a)) + (nI i)), .ref 288] (am_hh X (am_u S 285 3 0) L) _
            refine ax_ast (j := ((40 * a) + i)) rfl (hh_288 _ _ _) rfl (am_na (x := (40 * a)) (y := i) (am_nm (x := 40) (y := a) rfl rfl) rfl) (x4 c4 c5) (by decide) (am_hh_set _ _ _ 288 ((40 * a) + i) _ rfl) ?_
            refine ax_s (pc' := 75) (st' := [.ref 285]) rfl rfl rfl rfl ?_
            refine ax_get rfl (hh_285 _ _ _) rfl rfl rfl ?_
            show am_ex (d + 4) 152 78 [some (.ref 285), some (.int (nI a)), some (.int (nI i)), some (.int r)] [.ref 288] (am_hh X (am_u (am_u S 285 3 0) 288 ((40 * a) + i) ((r <<< (16 &&& 31)) >>> (16 &&& 31))) L) _
            refine ax_s (pc' := 80) (st' := [.int 40, .ref 288]) rfl rfl rfl rfl ?_
            refine ax_s (pc' := 81) (st' := [.int (nI a), .int 40, .ref 288]) rfl rfl rfl rfl ?_
            refine ax_s (pc' := 82) (st' := [.int (40 * (nI a)), .ref 288]) rfl rfl rfl rfl ?_
            refine ax_s (pc' := 83) (st' := [.int (nI i), .int (40 * (nI a)), .ref 288]) rfl rfl rfl rfl ?_
            refine ax_s (pc' := 84) (st' := [.int ((40 * (nI a)) + (nI i)), .ref 288]) rfl rfl rfl rfl ?_
            refine ax_ald (j := ((40 * a) + i)) (v := ((am_u (am_u S 285 3 0) 288 ((40 * a) + i) ((r <<< (16 &&& 31)) >>> (16 &&& 31))) 288 ((40 * a) + i))) rfl (hh_288 _ _ _) rfl (am_na (x := (40 * a)) (y := i) (am_nm (x := 40) (y := a) rfl rfl) rfl) (x4 c4 c5) (by decide) rfl ?_
            refine ax_r rfl rfl rfl ?_
            exact k2 c4 c5
        · refine ax_s (pc' := 5) (st' := [.int r]) rfl rfl rfl rfl ?_
          refine ax_s (pc' := 7) (st' := [.int 24, .int r]) rfl rfl rfl rfl ?_
          refine ax_s (pc' := 8) (st' := [.int (r <<< (24 &&& 31))]) rfl rfl rfl rfl ?_
          refine ax_s (pc' := 10) (st' := [.int 24, .int (r <<< (24 &&& 31))]) rfl rfl rfl rfl ?_
          refine ax_s (pc' := 11) (st' := [.int ((r <<< (24 &&& 31)) >>> (24 &&& 31))]) rfl rfl rfl rfl ?_
          refine ax_s (pc' := 30) (st' := [.int ((r <<< (24 &&& 31)) >>> (24 &&& 31))]) rfl rfl rfl rfl ?_
          refine ax_r rfl rfl rfl ?_
          show am_ex (d + 4) 152 73 [some (.ref 285), some (.int (nI a)), some (.int (nI i)), some (.int r)] [.int ((r <<< (24 &&& 31)) >>> (24 &&& 31)), .int ((40 * (nI a)) + (nI i)), .ref 288] (am_hh X (am_u S 285 3 0) L) _
          refine ax_ast (j := ((40 * a) + i)) rfl (hh_288 _ _ _) rfl (am_na (x := (40 * a)) (y := i) (am_nm (x := 40) (y := a) rfl rfl) rfl) (x5 c4) (by decide) (am_hh_set _ _ _ 288 ((40 * a) + i) _ rfl) ?_
          refine ax_s (pc' := 75) (st' := [.ref 285]) rfl rfl rfl rfl ?_
          refine ax_get rfl (hh_285 _ _ _) rfl rfl rfl ?_
          show am_ex (d + 4) 152 78 [some (.ref 285), some (.int (nI a)), some (.int (nI i)), some (.int r)] [.ref 288] (am_hh X (am_u (am_u S 285 3 0) 288 ((40 * a) + i) ((r <<< (24 &&& 31)) >>> (24 &&& 31))) L) _
          refine ax_s (pc' := 80) (st' := [.int 40, .ref 288]) rfl rfl rfl rfl ?_
          refine ax_s (pc' := 81) (st' := [.int (nI a), .int 40, .ref 288]) rfl rfl rfl rfl ?_
          refine ax_s (pc' := 82) (st' := [.int (40 * (nI a)), .ref 288]) rfl rfl rfl rfl ?_
          refine ax_s (pc' := 83) (st' := [.int (nI i), .int (40 * (nI a)), .ref 288]) rfl rfl rfl rfl ?_
          refine ax_s (pc' := 84) (st' := [.int ((40 * (nI a)) + (nI i)), .ref 288]) rfl rfl rfl rfl ?_
          refine ax_ald (j := ((40 * a) + i)) (v := ((am_u (am_u S 285 3 0) 288 ((40 * a) + i) ((r <<< (24 &&& 31)) >>> (24 &&& 31))) 288 ((40 * a) + i))) rfl (hh_288 _ _ _) rfl (am_na (x := (40 * a)) (y := i) (am_nm (x := 40) (y := a) rfl rfl) rfl) (x5 c4) (by decide) rfl ?_
          refine ax_r rfl rfl rfl ?_
          exact k3 c4
      · refine ax_s (pc' := 43) (st' := [.ref 285]) rfl rfl rfl rfl ?_
        refine ax_s (pc' := 44) (st' := [.int 2, .ref 285]) rfl rfl rfl rfl ?_
        refine ax_call (vs := [.ref 285, .int 2]) (rr := []) rfl rfl rfl ?_
        refine ax_in (ls := [some (.ref 285), some (.int 2)]) rfl ?_
        refine ax_s (pc' := 1) (st' := [.ref 285]) rfl rfl rfl rfl ?_
        refine ax_s (pc' := 2) (st' := [.int 2, .ref 285]) rfl rfl rfl rfl ?_
        refine ax_put rfl (hh_285 _ _ _) rfl rfl (show 3 + 1 ≤ _ from Nat.le_of_ble_eq_true rfl) rfl (am_hh_set _ _ _ 285 3 _ rfl) ?_
        refine ax_s (pc' := 7) (st' := [.int (-1000010)]) rfl rfl rfl rfl ?_
        refine ax_s (pc' := 8) (st' := [.int 2, .int (-1000010)]) rfl rfl rfl rfl ?_
        refine ax_s (pc' := 9) (st' := [.int ((-1000010) - 2)]) rfl rfl rfl rfl ?_
        refine ax_r rfl rfl rfl ?_
        show am_ex (d + 4) 152 47 [some (.ref 285), some (.int (nI a)), some (.int (nI i)), some (.int r)] [.int ((-1000010) - 2)] (am_hh X (am_u S 285 3 2) L) _
        refine ax_r rfl rfl rfl ?_
        first | exact absurd (hg.2.2) c3 | exact absurd c3 (hg.2.2) | exact absurd (hg.2.2) (ne_true_of_eq_false c3)
    · refine ax_s (pc' := 21) (st' := [.ref 285]) rfl rfl rfl rfl ?_
      refine ax_s (pc' := 22) (st' := [.int 1, .ref 285]) rfl rfl rfl rfl ?_
      refine ax_call (vs := [.ref 285, .int 1]) (rr := []) rfl rfl rfl ?_
      refine ax_in (ls := [some (.ref 285), some (.int 1)]) rfl ?_
      refine ax_s (pc' := 1) (st' := [.ref 285]) rfl rfl rfl rfl ?_
      refine ax_s (pc' := 2) (st' := [.int 1, .ref 285]) rfl rfl rfl rfl ?_
      refine ax_put rfl (hh_285 _ _ _) rfl rfl (show 3 + 1 ≤ _ from Nat.le_of_ble_eq_true rfl) rfl (am_hh_set _ _ _ 285 3 _ rfl) ?_
      refine ax_s (pc' := 7) (st' := [.int (-1000010)]) rfl rfl rfl rfl ?_
      refine ax_s (pc' := 8) (st' := [.int 1, .int (-1000010)]) rfl rfl rfl rfl ?_
      refine ax_s (pc' := 9) (st' := [.int ((-1000010) - 1)]) rfl rfl rfl rfl ?_
      refine ax_r rfl rfl rfl ?_
      show am_ex (d + 4) 152 25 [some (.ref 285), some (.int (nI a)), some (.int (nI i)), some (.int r)] [.int ((-1000010) - 1)] (am_hh X (am_u S 285 3 1) L) _
      refine ax_r rfl rfl rfl ?_
      first | exact absurd (hg.2.1) c2 | exact absurd c2 (hg.2.1) | exact absurd (hg.2.1) (ne_true_of_eq_false c2)
  · refine ax_s (pc' := 10) (st' := [.int (-1000001)]) rfl rfl rfl rfl ?_
    refine ax_r rfl rfl rfl ?_
    first | exact absurd (hg.1) c1 | exact absurd c1 (hg.1) | exact absurd (hg.1) (ne_true_of_eq_false c1)
def g_k_copy (S : Nat → Nat → Int32) (p q r s t : Int32) : Prop := (¬ p < 0 ∧ ¬ 8 ≤ p) ∧ (¬ r < 0 ∧ ¬ 8 ≤ r) ∧ ¬ ((S 17 p.toNatClampNeg) = -1) ∧ ¬ ((S 17 r.toNatClampNeg) = -1) ∧ (S 16 (p).toNatClampNeg) = (S 16 (r).toNatClampNeg) ∧ (¬ q < 0 ∧ ¬ t < 0 ∧ ¬ (S 17 p.toNatClampNeg) < q ∧ ¬ (S 17 p.toNatClampNeg) - q < t) ∧ (¬ s < 0 ∧ ¬ t < 0 ∧ ¬ (S 17 r.toNatClampNeg) < s ∧ ¬ (S 17 r.toNatClampNeg) - s < t)
def eg_k_copy (S : Nat → Nat → Int32) (p q r s t : Int32) : Int32 × (Nat → Nat → Int32) := (if ¬ p < 0 ∧ ¬ 8 ≤ p then (if ¬ r < 0 ∧ ¬ 8 ≤ r then (if (S 17 p.toNatClampNeg) = -1 then (((-1000010) - 1), (am_u S 5 12 1)) else (if (S 17 r.toNatClampNeg) = -1 then (((-1000010) - 1), (am_u S 5 12 1)) else (if (S 16 (p).toNatClampNeg) = (S 16 (r).toNatClampNeg) then (if ¬ q < 0 ∧ ¬ t < 0 ∧ ¬ (S 17 p.toNatClampNeg) < q ∧ ¬ (S 17 p.toNatClampNeg) - q < t then (if ¬ s < 0 ∧ ¬ t < 0 ∧ ¬ (S 17 r.toNatClampNeg) < s ∧ ¬ (S 17 r.toNatClampNeg) - s < t then (0, S) else (((-1000010) - 2), (am_u S 5 12 2))) else (((-1000010) - 2), (am_u S 5 12 2))) else (((-1000010) - 5), (am_u S 5 12 5))))) else ((-1000001), S)) else ((-1000001), S))
theorem wg_k_copy {d : Nat} {X : Nat × (Nat → Int32)} {S : Nat → Nat → Int32} {L : Nat → Int64} {p q r s t : Int32} {Q : Option Value → am_H → Prop}  (x1 : ¬ p < 0 ∧ ¬ 8 ≤ p → ¬ r < 0 ∧ ¬ 8 ≤ r → am_ix p 8 = true) (x2 : ¬ p < 0 ∧ ¬ 8 ≤ p → ¬ r < 0 ∧ ¬ 8 ≤ r → ¬ ((S 17 p.toNatClampNeg) = -1) → am_ix r 8 = true) (hb : ¬ g_k_copy S p q r s t) (hQ : Q (some (.int (eg_k_copy S p q r s t).1)) (am_hh X (eg_k_copy S p q r s t).2 L)) : am_mt (d + 4) 21 [.ref 5, .int p, .int q, .int r, .int s, .int t] (am_hh X S L) Q := by
  refine ax_in (ls := [some (.ref 5), some (.int p), some (.int q), some (.int r), some (.int s), some (.int t)]) rfl ?_
  refine ax_s (pc' := 1) (st' := [.int p]) rfl rfl rfl rfl ?_
  refine ax_call (vs := [.int p]) (rr := []) rfl rfl rfl ?_
  refine ct_isRow ?_
  show am_ex (d + 4) 21 4 [some (.ref 5), some (.int p), some (.int q), some (.int r), some (.int s), some (.int t)] [.int (bI (decide (¬ p < 0 ∧ ¬ 8 ≤ p)))] (am_hh X S L) _
  refine ax_pF rfl (fun c1 => ?_) (fun c1 => ?_)
  · refine ax_s (pc' := 16) (st' := [.int (-1000001)]) rfl rfl rfl rfl ?_
    refine ax_r rfl rfl rfl ?_
    unfold eg_k_copy at hQ
    rw [if_neg c1] at hQ
    exact hQ
  · refine ax_s (pc' := 8) (st' := [.int r]) rfl rfl rfl rfl ?_
    refine ax_call (vs := [.int r]) (rr := []) rfl rfl rfl ?_
    refine ct_isRow ?_
    show am_ex (d + 4) 21 11 [some (.ref 5), some (.int p), some (.int q), some (.int r), some (.int s), some (.int t)] [.int (bI (decide (¬ r < 0 ∧ ¬ 8 ≤ r)))] (am_hh X S L) _
    refine ax_pT rfl (fun c2 => ?_) (fun c2 => ?_)
    · refine ax_s (pc' := 18) (st' := [.ref 5]) rfl rfl rfl rfl ?_
      refine ax_get rfl (hh_5 _ _ _) rfl rfl rfl ?_
      show am_ex (d + 4) 21 21 [some (.ref 5), some (.int p), some (.int q), some (.int r), some (.int s), some (.int t)] [.ref 6] (am_hh X S L) _
      refine ax_s (pc' := 22) (st' := [.int p, .ref 6]) rfl rfl rfl rfl ?_
      refine ax_call (vs := [.ref 6, .int p]) (rr := []) rfl rfl rfl ?_
      refine kt_isMissing (am_ix_nI (x1 c1 c2)) (am_ix_lt (x1 c1 c2)) ?_
      show am_ex (d + 4) 21 25 [some (.ref 5), some (.int p), some (.int q), some (.int r), some (.int s), some (.int t)] [.int (bI (decide ((S 17 p.toNatClampNeg) = -1)))] (am_hh X S L) _
      refine ax_pT rfl (fun c3 => ?_) (fun c3 => ?_)
      · refine ax_s (pc' := 40) (st' := [.ref 5]) rfl rfl rfl rfl ?_
        refine ax_s (pc' := 41) (st' := [.int 1, .ref 5]) rfl rfl rfl rfl ?_
        refine ax_call (vs := [.ref 5, .int 1]) (rr := []) rfl rfl rfl ?_
        refine ax_in (ls := [some (.ref 5), some (.int 1)]) rfl ?_
        refine ax_s (pc' := 1) (st' := [.ref 5]) rfl rfl rfl rfl ?_
        refine ax_s (pc' := 2) (st' := [.int 1, .ref 5]) rfl rfl rfl rfl ?_
        refine ax_put rfl (hh_5 _ _ _) rfl rfl (show 12 + 1 ≤ _ from Nat.le_of_ble_eq_true rfl) rfl (am_hh_set _ _ _ 5 12 _ rfl) ?_
        refine ax_s (pc' := 8) (st' := [.int (-1000010)]) rfl rfl rfl rfl ?_
        refine ax_s (pc' := 9) (st' := [.int 1, .int (-1000010)]) rfl rfl rfl rfl ?_
        refine ax_s (pc' := 10) (st' := [.int ((-1000010) - 1)]) rfl rfl rfl rfl ?_
        refine ax_r rfl rfl rfl ?_
        show am_ex (d + 4) 21 44 [some (.ref 5), some (.int p), some (.int q), some (.int r), some (.int s), some (.int t)] [.int ((-1000010) - 1)] (am_hh X (am_u S 5 12 1) L) _
        refine ax_r rfl rfl rfl ?_
        unfold eg_k_copy at hQ
        rw [if_pos c1, if_pos c2, if_pos c3] at hQ
        exact hQ
      · refine ax_s (pc' := 29) (st' := [.ref 5]) rfl rfl rfl rfl ?_
        refine ax_get rfl (hh_5 _ _ _) rfl rfl rfl ?_
        show am_ex (d + 4) 21 32 [some (.ref 5), some (.int p), some (.int q), some (.int r), some (.int s), some (.int t)] [.ref 6] (am_hh X S L) _
        refine ax_s (pc' := 33) (st' := [.int r, .ref 6]) rfl rfl rfl rfl ?_
        refine ax_call (vs := [.ref 6, .int r]) (rr := []) rfl rfl rfl ?_
        refine kt_isMissing (am_ix_nI (x2 c1 c2 c3)) (am_ix_lt (x2 c1 c2 c3)) ?_
        show am_ex (d + 4) 21 36 [some (.ref 5), some (.int p), some (.int q), some (.int r), some (.int s), some (.int t)] [.int (bI (decide ((S 17 r.toNatClampNeg) = -1)))] (am_hh X S L) _
        refine ax_pF rfl (fun c4 => ?_) (fun c4 => ?_)
        · refine ax_s (pc' := 46) (st' := [.ref 5]) rfl rfl rfl rfl ?_
          refine ax_get rfl (hh_5 _ _ _) rfl rfl rfl ?_
          show am_ex (d + 4) 21 49 [some (.ref 5), some (.int p), some (.int q), some (.int r), some (.int s), some (.int t)] [.ref 6] (am_hh X S L) _
          refine ax_s (pc' := 50) (st' := [.int p, .ref 6]) rfl rfl rfl rfl ?_
          refine ax_s (pc' := 51) (st' := [.int r, .int p, .ref 6]) rfl rfl rfl rfl ?_
          refine ax_call (vs := [.ref 6, .int p, .int r]) (rr := []) rfl rfl rfl ?_
          refine ax_in (ls := [some (.ref 6), some (.int p), some (.int r)]) rfl ?_
          refine ax_s (pc' := 1) (st' := [.ref 6]) rfl rfl rfl rfl ?_
          refine ax_get rfl (hh_6 _ _ _) rfl rfl rfl ?_
          show am_ex (d + 3) 22 4 [some (.ref 6), some (.int p), some (.int r)] [.ref 16] (am_hh X S L) _
          refine ax_s (pc' := 5) (st' := [.int p, .ref 16]) rfl rfl rfl rfl ?_
          refine ax_ald' (v := (S 16 (p).toNatClampNeg)) rfl (hh_16 _ _ _) rfl (x1 c1 c2) rfl ?_
          refine ax_s (pc' := 7) (st' := [.ref 6, .int (S 16 (p).toNatClampNeg)]) rfl rfl rfl rfl ?_
          refine ax_get rfl (hh_6 _ _ _) rfl rfl rfl ?_
          show am_ex (d + 3) 22 10 [some (.ref 6), some (.int p), some (.int r)] [.ref 16, .int (S 16 (p).toNatClampNeg)] (am_hh X S L) _
          refine ax_s (pc' := 11) (st' := [.int r, .ref 16, .int (S 16 (p).toNatClampNeg)]) rfl rfl rfl rfl ?_
          refine ax_ald' (v := (S 16 (r).toNatClampNeg)) rfl (hh_16 _ _ _) rfl (x2 c1 c2 c3) rfl ?_
          refine ax_cmp_ne rfl (fun c5 => ?_) (fun c5 => ?_)
          · refine ax_s (pc' := 20) (st' := [.int 0]) rfl rfl rfl rfl ?_
            refine ax_rb (b := false) rfl rfl ?_
            show am_ex (d + 4) 21 54 [some (.ref 5), some (.int p), some (.int q), some (.int r), some (.int s), some (.int t)] [.int 0] (am_hh X S L) _
            refine ax_if_ne rfl (fun c6 => False.elim (by revert c6; decide)) (fun c6 => ?_)
            refine ax_s (pc' := 58) (st' := [.ref 5]) rfl rfl rfl rfl ?_
            refine ax_s (pc' := 59) (st' := [.int 5, .ref 5]) rfl rfl rfl rfl ?_
            refine ax_call (vs := [.ref 5, .int 5]) (rr := []) rfl rfl rfl ?_
            refine ax_in (ls := [some (.ref 5), some (.int 5)]) rfl ?_
            refine ax_s (pc' := 1) (st' := [.ref 5]) rfl rfl rfl rfl ?_
            refine ax_s (pc' := 2) (st' := [.int 5, .ref 5]) rfl rfl rfl rfl ?_
            refine ax_put rfl (hh_5 _ _ _) rfl rfl (show 12 + 1 ≤ _ from Nat.le_of_ble_eq_true rfl) rfl (am_hh_set _ _ _ 5 12 _ rfl) ?_
            refine ax_s (pc' := 8) (st' := [.int (-1000010)]) rfl rfl rfl rfl ?_
            refine ax_s (pc' := 9) (st' := [.int 5, .int (-1000010)]) rfl rfl rfl rfl ?_
            refine ax_s (pc' := 10) (st' := [.int ((-1000010) - 5)]) rfl rfl rfl rfl ?_
            refine ax_r rfl rfl rfl ?_
            show am_ex (d + 4) 21 62 [some (.ref 5), some (.int p), some (.int q), some (.int r), some (.int s), some (.int t)] [.int ((-1000010) - 5)] (am_hh X (am_u S 5 12 5) L) _
            refine ax_r rfl rfl rfl ?_
            unfold eg_k_copy at hQ
            rw [if_pos c1, if_pos c2, if_neg c3, if_neg c4, if_neg c5] at hQ
            exact hQ
          · refine ax_s (pc' := 16) (st' := [.int 1]) rfl rfl rfl rfl ?_
            refine ax_s (pc' := 20) (st' := [.int 1]) rfl rfl rfl rfl ?_
            refine ax_rb (b := true) rfl rfl ?_
            show am_ex (d + 4) 21 54 [some (.ref 5), some (.int p), some (.int q), some (.int r), some (.int s), some (.int t)] [.int 1] (am_hh X S L) _
            refine ax_if_ne rfl (fun c7 => ?_) (fun c7 => False.elim (by revert c7; decide))
            refine ax_s (pc' := 64) (st' := [.ref 5]) rfl rfl rfl rfl ?_
            refine ax_get rfl (hh_5 _ _ _) rfl rfl rfl ?_
            show am_ex (d + 4) 21 67 [some (.ref 5), some (.int p), some (.int q), some (.int r), some (.int s), some (.int t)] [.ref 6] (am_hh X S L) _
            refine ax_s (pc' := 68) (st' := [.int p, .ref 6]) rfl rfl rfl rfl ?_
            refine ax_s (pc' := 69) (st' := [.int q, .int p, .ref 6]) rfl rfl rfl rfl ?_
            refine ax_s (pc' := 71) (st' := [.int t, .int q, .int p, .ref 6]) rfl rfl rfl rfl ?_
            refine ax_call (vs := [.ref 6, .int p, .int q, .int t]) (rr := []) rfl rfl rfl ?_
            refine kt_hasPlaces (am_ix_nI (x1 c1 c2)) (am_ix_lt (x1 c1 c2)) ?_
            show am_ex (d + 4) 21 74 [some (.ref 5), some (.int p), some (.int q), some (.int r), some (.int s), some (.int t)] [.int (bI (decide (¬ q < 0 ∧ ¬ t < 0 ∧ ¬ (S 17 p.toNatClampNeg) < q ∧ ¬ (S 17 p.toNatClampNeg) - q < t)))] (am_hh X S L) _
            refine ax_pF rfl (fun c8 => ?_) (fun c8 => ?_)
            · refine ax_s (pc' := 93) (st' := [.ref 5]) rfl rfl rfl rfl ?_
              refine ax_s (pc' := 94) (st' := [.int 2, .ref 5]) rfl rfl rfl rfl ?_
              refine ax_call (vs := [.ref 5, .int 2]) (rr := []) rfl rfl rfl ?_
              refine ax_in (ls := [some (.ref 5), some (.int 2)]) rfl ?_
              refine ax_s (pc' := 1) (st' := [.ref 5]) rfl rfl rfl rfl ?_
              refine ax_s (pc' := 2) (st' := [.int 2, .ref 5]) rfl rfl rfl rfl ?_
              refine ax_put rfl (hh_5 _ _ _) rfl rfl (show 12 + 1 ≤ _ from Nat.le_of_ble_eq_true rfl) rfl (am_hh_set _ _ _ 5 12 _ rfl) ?_
              refine ax_s (pc' := 8) (st' := [.int (-1000010)]) rfl rfl rfl rfl ?_
              refine ax_s (pc' := 9) (st' := [.int 2, .int (-1000010)]) rfl rfl rfl rfl ?_
              refine ax_s (pc' := 10) (st' := [.int ((-1000010) - 2)]) rfl rfl rfl rfl ?_
              refine ax_r rfl rfl rfl ?_
              show am_ex (d + 4) 21 97 [some (.ref 5), some (.int p), some (.int q), some (.int r), some (.int s), some (.int t)] [.int ((-1000010) - 2)] (am_hh X (am_u S 5 12 2) L) _
              refine ax_r rfl rfl rfl ?_
              unfold eg_k_copy at hQ
              rw [if_pos c1, if_pos c2, if_neg c3, if_neg c4, if_pos c5, if_neg c8] at hQ
              exact hQ
            · refine ax_s (pc' := 78) (st' := [.ref 5]) rfl rfl rfl rfl ?_
              refine ax_get rfl (hh_5 _ _ _) rfl rfl rfl ?_
              show am_ex (d + 4) 21 81 [some (.ref 5), some (.int p), some (.int q), some (.int r), some (.int s), some (.int t)] [.ref 6] (am_hh X S L) _
              refine ax_s (pc' := 82) (st' := [.int r, .ref 6]) rfl rfl rfl rfl ?_
              refine ax_s (pc' := 84) (st' := [.int s, .int r, .ref 6]) rfl rfl rfl rfl ?_
              refine ax_s (pc' := 86) (st' := [.int t, .int s, .int r, .ref 6]) rfl rfl rfl rfl ?_
              refine ax_call (vs := [.ref 6, .int r, .int s, .int t]) (rr := []) rfl rfl rfl ?_
              refine kt_hasPlaces (am_ix_nI (x2 c1 c2 c3)) (am_ix_lt (x2 c1 c2 c3)) ?_
              show am_ex (d + 4) 21 89 [some (.ref 5), some (.int p), some (.int q), some (.int r), some (.int s), some (.int t)] [.int (bI (decide (¬ s < 0 ∧ ¬ t < 0 ∧ ¬ (S 17 r.toNatClampNeg) < s ∧ ¬ (S 17 r.toNatClampNeg) - s < t)))] (am_hh X S L) _
              refine ax_pT rfl (fun c9 => ?_) (fun c9 => ?_)
              · exact absurd ⟨c1, c2, c3, c4, c5, c8, c9⟩ hb
              · refine ax_s (pc' := 93) (st' := [.ref 5]) rfl rfl rfl rfl ?_
                refine ax_s (pc' := 94) (st' := [.int 2, .ref 5]) rfl rfl rfl rfl ?_
                refine ax_call (vs := [.ref 5, .int 2]) (rr := []) rfl rfl rfl ?_
                refine ax_in (ls := [some (.ref 5), some (.int 2)]) rfl ?_
                refine ax_s (pc' := 1) (st' := [.ref 5]) rfl rfl rfl rfl ?_
                refine ax_s (pc' := 2) (st' := [.int 2, .ref 5]) rfl rfl rfl rfl ?_
                refine ax_put rfl (hh_5 _ _ _) rfl rfl (show 12 + 1 ≤ _ from Nat.le_of_ble_eq_true rfl) rfl (am_hh_set _ _ _ 5 12 _ rfl) ?_
                refine ax_s (pc' := 8) (st' := [.int (-1000010)]) rfl rfl rfl rfl ?_
                refine ax_s (pc' := 9) (st' := [.int 2, .int (-1000010)]) rfl rfl rfl rfl ?_
                refine ax_s (pc' := 10) (st' := [.int ((-1000010) - 2)]) rfl rfl rfl rfl ?_
                refine ax_r rfl rfl rfl ?_
                show am_ex (d + 4) 21 97 [some (.ref 5), some (.int p), some (.int q), some (.int r), some (.int s), some (.int t)] [.int ((-1000010) - 2)] (am_hh X (am_u S 5 12 2) L) _
                refine ax_r rfl rfl rfl ?_
                unfold eg_k_copy at hQ
                rw [if_pos c1, if_pos c2, if_neg c3, if_neg c4, if_pos c5, if_pos c8, if_neg c9] at hQ
                exact hQ
        · refine ax_s (pc' := 40) (st' := [.ref 5]) rfl rfl rfl rfl ?_
          refine ax_s (pc' := 41) (st' := [.int 1, .ref 5]) rfl rfl rfl rfl ?_
          refine ax_call (vs := [.ref 5, .int 1]) (rr := []) rfl rfl rfl ?_
          refine ax_in (ls := [some (.ref 5), some (.int 1)]) rfl ?_
          refine ax_s (pc' := 1) (st' := [.ref 5]) rfl rfl rfl rfl ?_
          refine ax_s (pc' := 2) (st' := [.int 1, .ref 5]) rfl rfl rfl rfl ?_
          refine ax_put rfl (hh_5 _ _ _) rfl rfl (show 12 + 1 ≤ _ from Nat.le_of_ble_eq_true rfl) rfl (am_hh_set _ _ _ 5 12 _ rfl) ?_
          refine ax_s (pc' := 8) (st' := [.int (-1000010)]) rfl rfl rfl rfl ?_
          refine ax_s (pc' := 9) (st' := [.int 1, .int (-1000010)]) rfl rfl rfl rfl ?_
          refine ax_s (pc' := 10) (st' := [.int ((-1000010) - 1)]) rfl rfl rfl rfl ?_
          refine ax_r rfl rfl rfl ?_
          show am_ex (d + 4) 21 44 [some (.ref 5), some (.int p), some (.int q), some (.int r), some (.int s), some (.int t)] [.int ((-1000010) - 1)] (am_hh X (am_u S 5 12 1) L) _
          refine ax_r rfl rfl rfl ?_
          unfold eg_k_copy at hQ
          rw [if_pos c1, if_pos c2, if_neg c3, if_pos c4] at hQ
          exact hQ
    · refine ax_s (pc' := 16) (st' := [.int (-1000001)]) rfl rfl rfl rfl ?_
      refine ax_r rfl rfl rfl ?_
      unfold eg_k_copy at hQ
      rw [if_pos c1, if_neg c2] at hQ
      exact hQ
def g_m_copy (S : Nat → Nat → Int32) (p q r s t : Int32) : Prop := (¬ p < 0 ∧ ¬ 7 < p) ∧ (¬ r < 0 ∧ ¬ 7 < r) ∧ ¬ (S 287 (p).toNatClampNeg) < 0 ∧ 0 ≤ (S 287 (r).toNatClampNeg) ∧ (S 286 (p).toNatClampNeg) = (S 286 (r).toNatClampNeg) ∧ (¬ q < 0 ∧ ¬ t < 0 ∧ ¬ (S 287 (p).toNatClampNeg) < t ∧ ¬ (S 287 (p).toNatClampNeg) - t < q) ∧ (¬ s < 0 ∧ ¬ t < 0 ∧ ¬ (S 287 (r).toNatClampNeg) < t ∧ ¬ (S 287 (r).toNatClampNeg) - t < s)
def eg_m_copy (S : Nat → Nat → Int32) (p q r s t : Int32) : Int32 × (Nat → Nat → Int32) := (if ¬ p < 0 ∧ ¬ 7 < p then (if ¬ r < 0 ∧ ¬ 7 < r then (if (S 287 (p).toNatClampNeg) < 0 then (((-1000010) - 1), (am_u S 285 3 1)) else (if 0 ≤ (S 287 (r).toNatClampNeg) then (if (S 286 (p).toNatClampNeg) = (S 286 (r).toNatClampNeg) then (if ¬ q < 0 ∧ ¬ t < 0 ∧ ¬ (S 287 (p).toNatClampNeg) < t ∧ ¬ (S 287 (p).toNatClampNeg) - t < q then (if ¬ s < 0 ∧ ¬ t < 0 ∧ ¬ (S 287 (r).toNatClampNeg) < t ∧ ¬ (S 287 (r).toNatClampNeg) - t < s then (0, S) else (((-1000010) - 2), (am_u S 285 3 2))) else (((-1000010) - 2), (am_u S 285 3 2))) else (((-1000010) - 5), (am_u S 285 3 5))) else (((-1000010) - 1), (am_u S 285 3 1)))) else ((-1000001), S)) else ((-1000001), S))
theorem wg_m_copy {d : Nat} {X : Nat × (Nat → Int32)} {S : Nat → Nat → Int32} {L : Nat → Int64} {p q r s t : Int32} {Q : Option Value → am_H → Prop}  (x1 : ¬ p < 0 ∧ ¬ 7 < p → ¬ r < 0 ∧ ¬ 7 < r → am_ix p 8 = true) (x2 : ¬ p < 0 ∧ ¬ 7 < p → ¬ r < 0 ∧ ¬ 7 < r → ¬ (S 287 (p).toNatClampNeg) < 0 → am_ix r 8 = true) (hb : ¬ g_m_copy S p q r s t) (hQ : Q (some (.int (eg_m_copy S p q r s t).1)) (am_hh X (eg_m_copy S p q r s t).2 L)) : am_mt (d + 4) 154 [.ref 285, .int p, .int q, .int r, .int s, .int t] (am_hh X S L) Q := by
  refine ax_in (ls := [some (.ref 285), some (.int p), some (.int q), some (.int r), some (.int s), some (.int t), none, none, none]) rfl ?_
  refine ax_s (pc' := 1) (st' := [.ref 285]) rfl rfl rfl rfl ?_
  refine ax_s (pc' := 2) (st' := [.int p, .ref 285]) rfl rfl rfl rfl ?_
  refine ax_call (vs := [.ref 285, .int p]) (rr := []) rfl rfl rfl ?_
  refine mt_isRow ?_
  show am_ex (d + 4) 154 5 [some (.ref 285), some (.int p), some (.int q), some (.int r), some (.int s), some (.int t), none, none, none] [.int (bI (decide (¬ p < 0 ∧ ¬ 7 < p)))] (am_hh X S L) _
  refine ax_pF rfl (fun c1 => ?_) (fun c1 => ?_)
  · refine ax_s (pc' := 18) (st' := [.int (-1000001)]) rfl rfl rfl rfl ?_
    refine ax_r rfl rfl rfl ?_
    unfold eg_m_copy at hQ
    rw [if_neg c1] at hQ
    exact hQ
  · refine ax_s (pc' := 9) (st' := [.ref 285]) rfl rfl rfl rfl ?_
    refine ax_s (pc' := 10) (st' := [.int r, .ref 285]) rfl rfl rfl rfl ?_
    refine ax_call (vs := [.ref 285, .int r]) (rr := []) rfl rfl rfl ?_
    refine mt_isRow ?_
    show am_ex (d + 4) 154 13 [some (.ref 285), some (.int p), some (.int q), some (.int r), some (.int s), some (.int t), none, none, none] [.int (bI (decide (¬ r < 0 ∧ ¬ 7 < r)))] (am_hh X S L) _
    refine ax_pT rfl (fun c2 => ?_) (fun c2 => ?_)
    · refine ax_s (pc' := 20) (st' := [.ref 285]) rfl rfl rfl rfl ?_
      refine ax_get rfl (hh_285 _ _ _) rfl rfl rfl ?_
      show am_ex (d + 4) 154 23 [some (.ref 285), some (.int p), some (.int q), some (.int r), some (.int s), some (.int t), none, none, none] [.ref 287] (am_hh X S L) _
      refine ax_s (pc' := 24) (st' := [.int p, .ref 287]) rfl rfl rfl rfl ?_
      refine ax_ald' (v := (S 287 (p).toNatClampNeg)) rfl (hh_287 _ _ _) rfl (x1 c1 c2) rfl ?_
      refine ax_if_lt rfl (fun c3 => ?_) (fun c3 => ?_)
      · refine ax_s (pc' := 38) (st' := [.ref 285]) rfl rfl rfl rfl ?_
        refine ax_s (pc' := 39) (st' := [.int 1, .ref 285]) rfl rfl rfl rfl ?_
        refine ax_call (vs := [.ref 285, .int 1]) (rr := []) rfl rfl rfl ?_
        refine ax_in (ls := [some (.ref 285), some (.int 1)]) rfl ?_
        refine ax_s (pc' := 1) (st' := [.ref 285]) rfl rfl rfl rfl ?_
        refine ax_s (pc' := 2) (st' := [.int 1, .ref 285]) rfl rfl rfl rfl ?_
        refine ax_put rfl (hh_285 _ _ _) rfl rfl (show 3 + 1 ≤ _ from Nat.le_of_ble_eq_true rfl) rfl (am_hh_set _ _ _ 285 3 _ rfl) ?_
        refine ax_s (pc' := 7) (st' := [.int (-1000010)]) rfl rfl rfl rfl ?_
        refine ax_s (pc' := 8) (st' := [.int 1, .int (-1000010)]) rfl rfl rfl rfl ?_
        refine ax_s (pc' := 9) (st' := [.int ((-1000010) - 1)]) rfl rfl rfl rfl ?_
        refine ax_r rfl rfl rfl ?_
        show am_ex (d + 4) 154 42 [some (.ref 285), some (.int p), some (.int q), some (.int r), some (.int s), some (.int t), none, none, none] [.int ((-1000010) - 1)] (am_hh X (am_u S 285 3 1) L) _
        refine ax_r rfl rfl rfl ?_
        unfold eg_m_copy at hQ
        rw [if_pos c1, if_pos c2, if_pos c3] at hQ
        exact hQ
      · refine ax_s (pc' := 29) (st' := [.ref 285]) rfl rfl rfl rfl ?_
        refine ax_get rfl (hh_285 _ _ _) rfl rfl rfl ?_
        show am_ex (d + 4) 154 32 [some (.ref 285), some (.int p), some (.int q), some (.int r), some (.int s), some (.int t), none, none, none] [.ref 287] (am_hh X S L) _
        refine ax_s (pc' := 33) (st' := [.int r, .ref 287]) rfl rfl rfl rfl ?_
        refine ax_ald' (v := (S 287 (r).toNatClampNeg)) rfl (hh_287 _ _ _) rfl (x2 c1 c2 c3) rfl ?_
        refine ax_if_ge rfl (fun c4 => ?_) (fun c4 => ?_)
        · refine ax_s (pc' := 44) (st' := [.ref 285]) rfl rfl rfl rfl ?_
          refine ax_get rfl (hh_285 _ _ _) rfl rfl rfl ?_
          show am_ex (d + 4) 154 47 [some (.ref 285), some (.int p), some (.int q), some (.int r), some (.int s), some (.int t), none, none, none] [.ref 286] (am_hh X S L) _
          refine ax_s (pc' := 48) (st' := [.int p, .ref 286]) rfl rfl rfl rfl ?_
          refine ax_ald' (v := (S 286 (p).toNatClampNeg)) rfl (hh_286 _ _ _) rfl (x1 c1 c2) rfl ?_
          refine ax_s (pc' := 50) (st' := [.ref 285, .int (S 286 (p).toNatClampNeg)]) rfl rfl rfl rfl ?_
          refine ax_get rfl (hh_285 _ _ _) rfl rfl rfl ?_
          show am_ex (d + 4) 154 53 [some (.ref 285), some (.int p), some (.int q), some (.int r), some (.int s), some (.int t), none, none, none] [.ref 286, .int (S 286 (p).toNatClampNeg)] (am_hh X S L) _
          refine ax_s (pc' := 54) (st' := [.int r, .ref 286, .int (S 286 (p).toNatClampNeg)]) rfl rfl rfl rfl ?_
          refine ax_ald' (v := (S 286 (r).toNatClampNeg)) rfl (hh_286 _ _ _) rfl (x2 c1 c2 c3) rfl ?_
          refine ax_cmp_eq rfl (fun c5 => ?_) (fun c5 => ?_)
          · refine ax_s (pc' := 65) (st' := [.int q]) rfl rfl rfl rfl ?_
            refine ax_s (pc' := 67) (st' := [.int t, .int q]) rfl rfl rfl rfl ?_
            refine ax_s (pc' := 68) (st' := [.ref 285, .int t, .int q]) rfl rfl rfl rfl ?_
            refine ax_get rfl (hh_285 _ _ _) rfl rfl rfl ?_
            show am_ex (d + 4) 154 71 [some (.ref 285), some (.int p), some (.int q), some (.int r), some (.int s), some (.int t), none, none, none] [.ref 287, .int t, .int q] (am_hh X S L) _
            refine ax_s (pc' := 72) (st' := [.int p, .ref 287, .int t, .int q]) rfl rfl rfl rfl ?_
            refine ax_ald' (v := (S 287 (p).toNatClampNeg)) rfl (hh_287 _ _ _) rfl (x1 c1 c2) rfl ?_
            refine ax_call (vs := [.int q, .int t, .int (S 287 (p).toNatClampNeg)]) (rr := []) rfl rfl rfl ?_
            refine mt_isPart ?_
            show am_ex (d + 4) 154 76 [some (.ref 285), some (.int p), some (.int q), some (.int r), some (.int s), some (.int t), none, none, none] [.int (bI (decide (¬ q < 0 ∧ ¬ t < 0 ∧ ¬ (S 287 (p).toNatClampNeg) < t ∧ ¬ (S 287 (p).toNatClampNeg) - t < q)))] (am_hh X S L) _
            refine ax_pF rfl (fun c6 => ?_) (fun c6 => ?_)
            · refine ax_s (pc' := 96) (st' := [.ref 285]) rfl rfl rfl rfl ?_
              refine ax_s (pc' := 97) (st' := [.int 2, .ref 285]) rfl rfl rfl rfl ?_
              refine ax_call (vs := [.ref 285, .int 2]) (rr := []) rfl rfl rfl ?_
              refine ax_in (ls := [some (.ref 285), some (.int 2)]) rfl ?_
              refine ax_s (pc' := 1) (st' := [.ref 285]) rfl rfl rfl rfl ?_
              refine ax_s (pc' := 2) (st' := [.int 2, .ref 285]) rfl rfl rfl rfl ?_
              refine ax_put rfl (hh_285 _ _ _) rfl rfl (show 3 + 1 ≤ _ from Nat.le_of_ble_eq_true rfl) rfl (am_hh_set _ _ _ 285 3 _ rfl) ?_
              refine ax_s (pc' := 7) (st' := [.int (-1000010)]) rfl rfl rfl rfl ?_
              refine ax_s (pc' := 8) (st' := [.int 2, .int (-1000010)]) rfl rfl rfl rfl ?_
              refine ax_s (pc' := 9) (st' := [.int ((-1000010) - 2)]) rfl rfl rfl rfl ?_
              refine ax_r rfl rfl rfl ?_
              show am_ex (d + 4) 154 100 [some (.ref 285), some (.int p), some (.int q), some (.int r), some (.int s), some (.int t), none, none, none] [.int ((-1000010) - 2)] (am_hh X (am_u S 285 3 2) L) _
              refine ax_r rfl rfl rfl ?_
              unfold eg_m_copy at hQ
              rw [if_pos c1, if_pos c2, if_neg c3, if_pos c4, if_pos c5, if_neg c6] at hQ
              exact hQ
            · refine ax_s (pc' := 81) (st' := [.int s]) rfl rfl rfl rfl ?_
              refine ax_s (pc' := 83) (st' := [.int t, .int s]) rfl rfl rfl rfl ?_
              refine ax_s (pc' := 84) (st' := [.ref 285, .int t, .int s]) rfl rfl rfl rfl ?_
              refine ax_get rfl (hh_285 _ _ _) rfl rfl rfl ?_
              show am_ex (d + 4) 154 87 [some (.ref 285), some (.int p), some (.int q), some (.int r), some (.int s), some (.int t), none, none, none] [.ref 287, .int t, .int s] (am_hh X S L) _
              refine ax_s (pc' := 88) (st' := [.int r, .ref 287, .int t, .int s]) rfl rfl rfl rfl ?_
              refine ax_ald' (v := (S 287 (r).toNatClampNeg)) rfl (hh_287 _ _ _) rfl (x2 c1 c2 c3) rfl ?_
              refine ax_call (vs := [.int s, .int t, .int (S 287 (r).toNatClampNeg)]) (rr := []) rfl rfl rfl ?_
              refine mt_isPart ?_
              show am_ex (d + 4) 154 92 [some (.ref 285), some (.int p), some (.int q), some (.int r), some (.int s), some (.int t), none, none, none] [.int (bI (decide (¬ s < 0 ∧ ¬ t < 0 ∧ ¬ (S 287 (r).toNatClampNeg) < t ∧ ¬ (S 287 (r).toNatClampNeg) - t < s)))] (am_hh X S L) _
              refine ax_pT rfl (fun c7 => ?_) (fun c7 => ?_)
              · exact absurd ⟨c1, c2, c3, c4, c5, c6, c7⟩ hb
              · refine ax_s (pc' := 96) (st' := [.ref 285]) rfl rfl rfl rfl ?_
                refine ax_s (pc' := 97) (st' := [.int 2, .ref 285]) rfl rfl rfl rfl ?_
                refine ax_call (vs := [.ref 285, .int 2]) (rr := []) rfl rfl rfl ?_
                refine ax_in (ls := [some (.ref 285), some (.int 2)]) rfl ?_
                refine ax_s (pc' := 1) (st' := [.ref 285]) rfl rfl rfl rfl ?_
                refine ax_s (pc' := 2) (st' := [.int 2, .ref 285]) rfl rfl rfl rfl ?_
                refine ax_put rfl (hh_285 _ _ _) rfl rfl (show 3 + 1 ≤ _ from Nat.le_of_ble_eq_true rfl) rfl (am_hh_set _ _ _ 285 3 _ rfl) ?_
                refine ax_s (pc' := 7) (st' := [.int (-1000010)]) rfl rfl rfl rfl ?_
                refine ax_s (pc' := 8) (st' := [.int 2, .int (-1000010)]) rfl rfl rfl rfl ?_
                refine ax_s (pc' := 9) (st' := [.int ((-1000010) - 2)]) rfl rfl rfl rfl ?_
                refine ax_r rfl rfl rfl ?_
                show am_ex (d + 4) 154 100 [some (.ref 285), some (.int p), some (.int q), some (.int r), some (.int s), some (.int t), none, none, none] [.int ((-1000010) - 2)] (am_hh X (am_u S 285 3 2) L) _
                refine ax_r rfl rfl rfl ?_
                unfold eg_m_copy at hQ
                rw [if_pos c1, if_pos c2, if_neg c3, if_pos c4, if_pos c5, if_pos c6, if_neg c7] at hQ
                exact hQ
          · refine ax_s (pc' := 59) (st' := [.ref 285]) rfl rfl rfl rfl ?_
            refine ax_s (pc' := 60) (st' := [.int 5, .ref 285]) rfl rfl rfl rfl ?_
            refine ax_call (vs := [.ref 285, .int 5]) (rr := []) rfl rfl rfl ?_
            refine ax_in (ls := [some (.ref 285), some (.int 5)]) rfl ?_
            refine ax_s (pc' := 1) (st' := [.ref 285]) rfl rfl rfl rfl ?_
            refine ax_s (pc' := 2) (st' := [.int 5, .ref 285]) rfl rfl rfl rfl ?_
            refine ax_put rfl (hh_285 _ _ _) rfl rfl (show 3 + 1 ≤ _ from Nat.le_of_ble_eq_true rfl) rfl (am_hh_set _ _ _ 285 3 _ rfl) ?_
            refine ax_s (pc' := 7) (st' := [.int (-1000010)]) rfl rfl rfl rfl ?_
            refine ax_s (pc' := 8) (st' := [.int 5, .int (-1000010)]) rfl rfl rfl rfl ?_
            refine ax_s (pc' := 9) (st' := [.int ((-1000010) - 5)]) rfl rfl rfl rfl ?_
            refine ax_r rfl rfl rfl ?_
            show am_ex (d + 4) 154 63 [some (.ref 285), some (.int p), some (.int q), some (.int r), some (.int s), some (.int t), none, none, none] [.int ((-1000010) - 5)] (am_hh X (am_u S 285 3 5) L) _
            refine ax_r rfl rfl rfl ?_
            unfold eg_m_copy at hQ
            rw [if_pos c1, if_pos c2, if_neg c3, if_pos c4, if_neg c5] at hQ
            exact hQ
        · refine ax_s (pc' := 38) (st' := [.ref 285]) rfl rfl rfl rfl ?_
          refine ax_s (pc' := 39) (st' := [.int 1, .ref 285]) rfl rfl rfl rfl ?_
          refine ax_call (vs := [.ref 285, .int 1]) (rr := []) rfl rfl rfl ?_
          refine ax_in (ls := [some (.ref 285), some (.int 1)]) rfl ?_
          refine ax_s (pc' := 1) (st' := [.ref 285]) rfl rfl rfl rfl ?_
          refine ax_s (pc' := 2) (st' := [.int 1, .ref 285]) rfl rfl rfl rfl ?_
          refine ax_put rfl (hh_285 _ _ _) rfl rfl (show 3 + 1 ≤ _ from Nat.le_of_ble_eq_true rfl) rfl (am_hh_set _ _ _ 285 3 _ rfl) ?_
          refine ax_s (pc' := 7) (st' := [.int (-1000010)]) rfl rfl rfl rfl ?_
          refine ax_s (pc' := 8) (st' := [.int 1, .int (-1000010)]) rfl rfl rfl rfl ?_
          refine ax_s (pc' := 9) (st' := [.int ((-1000010) - 1)]) rfl rfl rfl rfl ?_
          refine ax_r rfl rfl rfl ?_
          show am_ex (d + 4) 154 42 [some (.ref 285), some (.int p), some (.int q), some (.int r), some (.int s), some (.int t), none, none, none] [.int ((-1000010) - 1)] (am_hh X (am_u S 285 3 1) L) _
          refine ax_r rfl rfl rfl ?_
          unfold eg_m_copy at hQ
          rw [if_pos c1, if_pos c2, if_neg c3, if_neg c4] at hQ
          exact hQ
    · refine ax_s (pc' := 18) (st' := [.int (-1000001)]) rfl rfl rfl rfl ?_
      refine ax_r rfl rfl rfl ?_
      unfold eg_m_copy at hQ
      rw [if_pos c1, if_neg c2] at hQ
      exact hQ
theorem wv_k_copy {d : Nat} {X : Nat × (Nat → Int32)} {S : Nat → Nat → Int32} {L : Nat → Int64} {a i b j c : Nat} {Q : Option Value → am_H → Prop}  (hg : (¬ (nI a) < 0 ∧ ¬ 8 ≤ (nI a)) ∧ (¬ (nI b) < 0 ∧ ¬ 8 ≤ (nI b)) ∧ ¬ ((S 17 a) = -1) ∧ ¬ ((S 17 b) = -1) ∧ (S 16 a) = (S 16 b) ∧ (¬ (nI i) < 0 ∧ ¬ (nI c) < 0 ∧ ¬ (S 17 a) < (nI i) ∧ ¬ (S 17 a) - (nI i) < (nI c)) ∧ (¬ (nI j) < 0 ∧ ¬ (nI c) < 0 ∧ ¬ (S 17 b) < (nI j) ∧ ¬ (S 17 b) - (nI j) < (nI c))) (x1 : ¬ (nI a) < 0 ∧ ¬ 8 ≤ (nI a) → ¬ (nI b) < 0 ∧ ¬ 8 ≤ (nI b) → a < 8) (x2 : ¬ (nI a) < 0 ∧ ¬ 8 ≤ (nI a) → ¬ (nI b) < 0 ∧ ¬ 8 ≤ (nI b) → ¬ ((S 17 a) = -1) → b < 8) (x3 : a < 8) (x4 : b < 8) (x5 : i + c ≤ 40) (x6 : j + c ≤ 40) (k1 : Q (some (.int (nI c))) (am_hh X (am_u (am_uc S (8 + 1 * b) (va_cpy (S (8 + 1 * a)) (S (8 + 1 * b)) i j c)) 5 12 0) L)) : am_mt (d + 4) 21 [.ref 5, .int (nI a), .int (nI i), .int (nI b), .int (nI j), .int (nI c)] (am_hh X S L) Q := by
  refine ax_in (ls := [some (.ref 5), some (.int (nI a)), some (.int (nI i)), some (.int (nI b)), some (.int (nI j)), some (.int (nI c))]) rfl ?_
  refine ax_s (pc' := 1) (st' := [.int (nI a)]) rfl rfl rfl rfl ?_
  refine ax_call (vs := [.int (nI a)]) (rr := []) rfl rfl rfl ?_
  refine ct_isRow ?_
  show am_ex (d + 4) 21 4 [some (.ref 5), some (.int (nI a)), some (.int (nI i)), some (.int (nI b)), some (.int (nI j)), some (.int (nI c))] [.int (bI (decide (¬ (nI a) < 0 ∧ ¬ 8 ≤ (nI a))))] (am_hh X S L) _
  refine ax_pF rfl (fun c1 => ?_) (fun c1 => ?_)
  · refine ax_s (pc' := 16) (st' := [.int (-1000001)]) rfl rfl rfl rfl ?_
    refine ax_r rfl rfl rfl ?_
    first | exact absurd (hg.1) c1 | exact absurd c1 (hg.1) | exact absurd (hg.1) (ne_true_of_eq_false c1)
  · refine ax_s (pc' := 8) (st' := [.int (nI b)]) rfl rfl rfl rfl ?_
    refine ax_call (vs := [.int (nI b)]) (rr := []) rfl rfl rfl ?_
    refine ct_isRow ?_
    show am_ex (d + 4) 21 11 [some (.ref 5), some (.int (nI a)), some (.int (nI i)), some (.int (nI b)), some (.int (nI j)), some (.int (nI c))] [.int (bI (decide (¬ (nI b) < 0 ∧ ¬ 8 ≤ (nI b))))] (am_hh X S L) _
    refine ax_pT rfl (fun c2 => ?_) (fun c2 => ?_)
    · refine ax_s (pc' := 18) (st' := [.ref 5]) rfl rfl rfl rfl ?_
      refine ax_get rfl (hh_5 _ _ _) rfl rfl rfl ?_
      show am_ex (d + 4) 21 21 [some (.ref 5), some (.int (nI a)), some (.int (nI i)), some (.int (nI b)), some (.int (nI j)), some (.int (nI c))] [.ref 6] (am_hh X S L) _
      refine ax_s (pc' := 22) (st' := [.int (nI a), .ref 6]) rfl rfl rfl rfl ?_
      refine ax_call (vs := [.ref 6, .int (nI a)]) (rr := []) rfl rfl rfl ?_
      refine kt_isMissing rfl (x1 c1 c2) ?_
      show am_ex (d + 4) 21 25 [some (.ref 5), some (.int (nI a)), some (.int (nI i)), some (.int (nI b)), some (.int (nI j)), some (.int (nI c))] [.int (bI (decide ((S 17 a) = -1)))] (am_hh X S L) _
      refine ax_pT rfl (fun c3 => ?_) (fun c3 => ?_)
      · refine ax_s (pc' := 40) (st' := [.ref 5]) rfl rfl rfl rfl ?_
        refine ax_s (pc' := 41) (st' := [.int 1, .ref 5]) rfl rfl rfl rfl ?_
        refine ax_call (vs := [.ref 5, .int 1]) (rr := []) rfl rfl rfl ?_
        refine ax_in (ls := [some (.ref 5), some (.int 1)]) rfl ?_
        refine ax_s (pc' := 1) (st' := [.ref 5]) rfl rfl rfl rfl ?_
        refine ax_s (pc' := 2) (st' := [.int 1, .ref 5]) rfl rfl rfl rfl ?_
        refine ax_put rfl (hh_5 _ _ _) rfl rfl (show 12 + 1 ≤ _ from Nat.le_of_ble_eq_true rfl) rfl (am_hh_set _ _ _ 5 12 _ rfl) ?_
        refine ax_s (pc' := 8) (st' := [.int (-1000010)]) rfl rfl rfl rfl ?_
        refine ax_s (pc' := 9) (st' := [.int 1, .int (-1000010)]) rfl rfl rfl rfl ?_
        refine ax_s (pc' := 10) (st' := [.int ((-1000010) - 1)]) rfl rfl rfl rfl ?_
        refine ax_r rfl rfl rfl ?_
        show am_ex (d + 4) 21 44 [some (.ref 5), some (.int (nI a)), some (.int (nI i)), some (.int (nI b)), some (.int (nI j)), some (.int (nI c))] [.int ((-1000010) - 1)] (am_hh X (am_u S 5 12 1) L) _
        refine ax_r rfl rfl rfl ?_
        first | exact absurd (hg.2.2.1) c3 | exact absurd c3 (hg.2.2.1) | exact absurd (hg.2.2.1) (ne_true_of_eq_false c3)
      · refine ax_s (pc' := 29) (st' := [.ref 5]) rfl rfl rfl rfl ?_
        refine ax_get rfl (hh_5 _ _ _) rfl rfl rfl ?_
        show am_ex (d + 4) 21 32 [some (.ref 5), some (.int (nI a)), some (.int (nI i)), some (.int (nI b)), some (.int (nI j)), some (.int (nI c))] [.ref 6] (am_hh X S L) _
        refine ax_s (pc' := 33) (st' := [.int (nI b), .ref 6]) rfl rfl rfl rfl ?_
        refine ax_call (vs := [.ref 6, .int (nI b)]) (rr := []) rfl rfl rfl ?_
        refine kt_isMissing rfl (x2 c1 c2 c3) ?_
        show am_ex (d + 4) 21 36 [some (.ref 5), some (.int (nI a)), some (.int (nI i)), some (.int (nI b)), some (.int (nI j)), some (.int (nI c))] [.int (bI (decide ((S 17 b) = -1)))] (am_hh X S L) _
        refine ax_pF rfl (fun c4 => ?_) (fun c4 => ?_)
        · refine ax_s (pc' := 46) (st' := [.ref 5]) rfl rfl rfl rfl ?_
          refine ax_get rfl (hh_5 _ _ _) rfl rfl rfl ?_
          show am_ex (d + 4) 21 49 [some (.ref 5), some (.int (nI a)), some (.int (nI i)), some (.int (nI b)), some (.int (nI j)), some (.int (nI c))] [.ref 6] (am_hh X S L) _
          refine ax_s (pc' := 50) (st' := [.int (nI a), .ref 6]) rfl rfl rfl rfl ?_
          refine ax_s (pc' := 51) (st' := [.int (nI b), .int (nI a), .ref 6]) rfl rfl rfl rfl ?_
          refine ax_call (vs := [.ref 6, .int (nI a), .int (nI b)]) (rr := []) rfl rfl rfl ?_
          refine ax_in (ls := [some (.ref 6), some (.int (nI a)), some (.int (nI b))]) rfl ?_
          refine ax_s (pc' := 1) (st' := [.ref 6]) rfl rfl rfl rfl ?_
          refine ax_get rfl (hh_6 _ _ _) rfl rfl rfl ?_
          show am_ex (d + 3) 22 4 [some (.ref 6), some (.int (nI a)), some (.int (nI b))] [.ref 16] (am_hh X S L) _
          refine ax_s (pc' := 5) (st' := [.int (nI a), .ref 16]) rfl rfl rfl rfl ?_
          refine ax_ald (j := a) (v := (S 16 a)) rfl (hh_16 _ _ _) rfl rfl (x1 c1 c2) (by decide) rfl ?_
          refine ax_s (pc' := 7) (st' := [.ref 6, .int (S 16 a)]) rfl rfl rfl rfl ?_
          refine ax_get rfl (hh_6 _ _ _) rfl rfl rfl ?_
          show am_ex (d + 3) 22 10 [some (.ref 6), some (.int (nI a)), some (.int (nI b))] [.ref 16, .int (S 16 a)] (am_hh X S L) _
          refine ax_s (pc' := 11) (st' := [.int (nI b), .ref 16, .int (S 16 a)]) rfl rfl rfl rfl ?_
          refine ax_ald (j := b) (v := (S 16 b)) rfl (hh_16 _ _ _) rfl rfl (x2 c1 c2 c3) (by decide) rfl ?_
          refine ax_cmp_ne rfl (fun c5 => ?_) (fun c5 => ?_)
          · refine ax_s (pc' := 20) (st' := [.int 0]) rfl rfl rfl rfl ?_
            refine ax_rb (b := false) rfl rfl ?_
            show am_ex (d + 4) 21 54 [some (.ref 5), some (.int (nI a)), some (.int (nI i)), some (.int (nI b)), some (.int (nI j)), some (.int (nI c))] [.int 0] (am_hh X S L) _
            refine ax_if_ne rfl (fun c6 => False.elim (by revert c6; decide)) (fun c6 => ?_)
            refine ax_s (pc' := 58) (st' := [.ref 5]) rfl rfl rfl rfl ?_
            refine ax_s (pc' := 59) (st' := [.int 5, .ref 5]) rfl rfl rfl rfl ?_
            refine ax_call (vs := [.ref 5, .int 5]) (rr := []) rfl rfl rfl ?_
            refine ax_in (ls := [some (.ref 5), some (.int 5)]) rfl ?_
            refine ax_s (pc' := 1) (st' := [.ref 5]) rfl rfl rfl rfl ?_
            refine ax_s (pc' := 2) (st' := [.int 5, .ref 5]) rfl rfl rfl rfl ?_
            refine ax_put rfl (hh_5 _ _ _) rfl rfl (show 12 + 1 ≤ _ from Nat.le_of_ble_eq_true rfl) rfl (am_hh_set _ _ _ 5 12 _ rfl) ?_
            refine ax_s (pc' := 8) (st' := [.int (-1000010)]) rfl rfl rfl rfl ?_
            refine ax_s (pc' := 9) (st' := [.int 5, .int (-1000010)]) rfl rfl rfl rfl ?_
            refine ax_s (pc' := 10) (st' := [.int ((-1000010) - 5)]) rfl rfl rfl rfl ?_
            refine ax_r rfl rfl rfl ?_
            show am_ex (d + 4) 21 62 [some (.ref 5), some (.int (nI a)), some (.int (nI i)), some (.int (nI b)), some (.int (nI j)), some (.int (nI c))] [.int ((-1000010) - 5)] (am_hh X (am_u S 5 12 5) L) _
            refine ax_r rfl rfl rfl ?_
            first | exact absurd (hg.2.2.2.2.1) c5 | exact absurd c5 (hg.2.2.2.2.1) | exact absurd (hg.2.2.2.2.1) (ne_true_of_eq_false c5)
          · refine ax_s (pc' := 16) (st' := [.int 1]) rfl rfl rfl rfl ?_
            refine ax_s (pc' := 20) (st' := [.int 1]) rfl rfl rfl rfl ?_
            refine ax_rb (b := true) rfl rfl ?_
            show am_ex (d + 4) 21 54 [some (.ref 5), some (.int (nI a)), some (.int (nI i)), some (.int (nI b)), some (.int (nI j)), some (.int (nI c))] [.int 1] (am_hh X S L) _
            refine ax_if_ne rfl (fun c7 => ?_) (fun c7 => False.elim (by revert c7; decide))
            refine ax_s (pc' := 64) (st' := [.ref 5]) rfl rfl rfl rfl ?_
            refine ax_get rfl (hh_5 _ _ _) rfl rfl rfl ?_
            show am_ex (d + 4) 21 67 [some (.ref 5), some (.int (nI a)), some (.int (nI i)), some (.int (nI b)), some (.int (nI j)), some (.int (nI c))] [.ref 6] (am_hh X S L) _
            refine ax_s (pc' := 68) (st' := [.int (nI a), .ref 6]) rfl rfl rfl rfl ?_
            refine ax_s (pc' := 69) (st' := [.int (nI i), .int (nI a), .ref 6]) rfl rfl rfl rfl ?_
            refine ax_s (pc' := 71) (st' := [.int (nI c), .int (nI i), .int (nI a), .ref 6]) rfl rfl rfl rfl ?_
            refine ax_call (vs := [.ref 6, .int (nI a), .int (nI i), .int (nI c)]) (rr := []) rfl rfl rfl ?_
            refine kt_hasPlaces rfl (x1 c1 c2) ?_
            show am_ex (d + 4) 21 74 [some (.ref 5), some (.int (nI a)), some (.int (nI i)), some (.int (nI b)), some (.int (nI j)), some (.int (nI c))] [.int (bI (decide (¬ (nI i) < 0 ∧ ¬ (nI c) < 0 ∧ ¬ (S 17 a) < (nI i) ∧ ¬ (S 17 a) - (nI i) < (nI c))))] (am_hh X S L) _
            refine ax_pF rfl (fun c8 => ?_) (fun c8 => ?_)
            · refine ax_s (pc' := 93) (st' := [.ref 5]) rfl rfl rfl rfl ?_
              refine ax_s (pc' := 94) (st' := [.int 2, .ref 5]) rfl rfl rfl rfl ?_
              refine ax_call (vs := [.ref 5, .int 2]) (rr := []) rfl rfl rfl ?_
              refine ax_in (ls := [some (.ref 5), some (.int 2)]) rfl ?_
              refine ax_s (pc' := 1) (st' := [.ref 5]) rfl rfl rfl rfl ?_
              refine ax_s (pc' := 2) (st' := [.int 2, .ref 5]) rfl rfl rfl rfl ?_
              refine ax_put rfl (hh_5 _ _ _) rfl rfl (show 12 + 1 ≤ _ from Nat.le_of_ble_eq_true rfl) rfl (am_hh_set _ _ _ 5 12 _ rfl) ?_
              refine ax_s (pc' := 8) (st' := [.int (-1000010)]) rfl rfl rfl rfl ?_
              refine ax_s (pc' := 9) (st' := [.int 2, .int (-1000010)]) rfl rfl rfl rfl ?_
              refine ax_s (pc' := 10) (st' := [.int ((-1000010) - 2)]) rfl rfl rfl rfl ?_
              refine ax_r rfl rfl rfl ?_
              show am_ex (d + 4) 21 97 [some (.ref 5), some (.int (nI a)), some (.int (nI i)), some (.int (nI b)), some (.int (nI j)), some (.int (nI c))] [.int ((-1000010) - 2)] (am_hh X (am_u S 5 12 2) L) _
              refine ax_r rfl rfl rfl ?_
              first | exact absurd (hg.2.2.2.2.2.1) c8 | exact absurd c8 (hg.2.2.2.2.2.1) | exact absurd (hg.2.2.2.2.2.1) (ne_true_of_eq_false c8)
            · refine ax_s (pc' := 78) (st' := [.ref 5]) rfl rfl rfl rfl ?_
              refine ax_get rfl (hh_5 _ _ _) rfl rfl rfl ?_
              show am_ex (d + 4) 21 81 [some (.ref 5), some (.int (nI a)), some (.int (nI i)), some (.int (nI b)), some (.int (nI j)), some (.int (nI c))] [.ref 6] (am_hh X S L) _
              refine ax_s (pc' := 82) (st' := [.int (nI b), .ref 6]) rfl rfl rfl rfl ?_
              refine ax_s (pc' := 84) (st' := [.int (nI j), .int (nI b), .ref 6]) rfl rfl rfl rfl ?_
              refine ax_s (pc' := 86) (st' := [.int (nI c), .int (nI j), .int (nI b), .ref 6]) rfl rfl rfl rfl ?_
              refine ax_call (vs := [.ref 6, .int (nI b), .int (nI j), .int (nI c)]) (rr := []) rfl rfl rfl ?_
              refine kt_hasPlaces rfl (x2 c1 c2 c3) ?_
              show am_ex (d + 4) 21 89 [some (.ref 5), some (.int (nI a)), some (.int (nI i)), some (.int (nI b)), some (.int (nI j)), some (.int (nI c))] [.int (bI (decide (¬ (nI j) < 0 ∧ ¬ (nI c) < 0 ∧ ¬ (S 17 b) < (nI j) ∧ ¬ (S 17 b) - (nI j) < (nI c))))] (am_hh X S L) _
              refine ax_pT rfl (fun c9 => ?_) (fun c9 => ?_)
              · refine ax_s (pc' := 99) (st' := [.ref 5]) rfl rfl rfl rfl ?_
                refine ax_get rfl (hh_5 _ _ _) rfl rfl rfl ?_
                show am_ex (d + 4) 21 102 [some (.ref 5), some (.int (nI a)), some (.int (nI i)), some (.int (nI b)), some (.int (nI j)), some (.int (nI c))] [.ref 6] (am_hh X S L) _
                refine ax_s (pc' := 103) (st' := [.int (nI a), .ref 6]) rfl rfl rfl rfl ?_
                refine ax_s (pc' := 104) (st' := [.int (nI i), .int (nI a), .ref 6]) rfl rfl rfl rfl ?_
                refine ax_s (pc' := 105) (st' := [.int (nI b), .int (nI i), .int (nI a), .ref 6]) rfl rfl rfl rfl ?_
                refine ax_s (pc' := 107) (st' := [.int (nI j), .int (nI b), .int (nI i), .int (nI a), .ref 6]) rfl rfl rfl rfl ?_
                refine ax_s (pc' := 109) (st' := [.int (nI c), .int (nI j), .int (nI b), .int (nI i), .int (nI a), .ref 6]) rfl rfl rfl rfl ?_
                refine ax_call (vs := [.ref 6, .int (nI a), .int (nI i), .int (nI b), .int (nI j), .int (nI c)]) (rr := []) rfl rfl rfl ?_
                refine ax_in (ls := [some (.ref 6), some (.int (nI a)), some (.int (nI i)), some (.int (nI b)), some (.int (nI j)), some (.int (nI c))]) rfl ?_
                refine ax_s (pc' := 1) (st' := [.ref 6]) rfl rfl rfl rfl ?_
                refine ax_get rfl (hh_6 _ _ _) rfl rfl rfl ?_
                show am_ex (d + 3) 23 4 [some (.ref 6), some (.int (nI a)), some (.int (nI i)), some (.int (nI b)), some (.int (nI j)), some (.int (nI c))] [.ref 7] (am_hh X S L) _
                refine ax_s (pc' := 5) (st' := [.int (nI a), .ref 7]) rfl rfl rfl rfl ?_
                refine ax_qld (j := a) (b := (8 + 1 * a)) rfl (hh_7 _ _ _) rfl (by decide) rfl x3 (by decide) (if_pos x3) ?_
                refine ax_s (pc' := 7) (st' := [.int (nI i), .ref (8 + 1 * a)]) rfl rfl rfl rfl ?_
                refine ax_s (pc' := 8) (st' := [.ref 6, .int (nI i), .ref (8 + 1 * a)]) rfl rfl rfl rfl ?_
                refine ax_get rfl (hh_6 _ _ _) rfl rfl rfl ?_
                show am_ex (d + 3) 23 11 [some (.ref 6), some (.int (nI a)), some (.int (nI i)), some (.int (nI b)), some (.int (nI j)), some (.int (nI c))] [.ref 7, .int (nI i), .ref (8 + 1 * a)] (am_hh X S L) _
                refine ax_s (pc' := 12) (st' := [.int (nI b), .ref 7, .int (nI i), .ref (8 + 1 * a)]) rfl rfl rfl rfl ?_
                refine ax_qld (j := b) (b := (8 + 1 * b)) rfl (hh_7 _ _ _) rfl (by decide) rfl x4 (by decide) (if_pos x4) ?_
                refine ax_s (pc' := 15) (st' := [.int (nI j), .ref (8 + 1 * b), .int (nI i), .ref (8 + 1 * a)]) rfl rfl rfl rfl ?_
                refine ax_s (pc' := 17) (st' := [.int (nI c), .int (nI j), .ref (8 + 1 * b), .int (nI i), .ref (8 + 1 * a)]) rfl rfl rfl rfl ?_
                refine ax_cpy (s1 := i) (d1 := j) (m1 := c) rfl (hh_row _ _ _ x3) (hh_row _ _ _ x4) rfl rfl rfl x5 x6 ⟨by decide, by decide⟩ (hh_rowi _ _ _ x3) (hh_rowm _ _ _ x4) (Nat.le_of_ble_eq_true rfl) (am_hh_setc _ _ _ (8 + 1 * b) _ (am_rowc _ _ x4 _).symm) ?_
                refine ax_r rfl rfl rfl ?_
                show am_ex (d + 4) 21 112 [some (.ref 5), some (.int (nI a)), some (.int (nI i)), some (.int (nI b)), some (.int (nI j)), some (.int (nI c))] [] (am_hh X (am_uc S (8 + 1 * b) (va_cpy (S (8 + 1 * a)) (S (8 + 1 * b)) i j c)) L) _
                refine ax_s (pc' := 113) (st' := [.ref 5]) rfl rfl rfl rfl ?_
                refine ax_s (pc' := 115) (st' := [.int (nI c), .ref 5]) rfl rfl rfl rfl ?_
                refine ax_call (vs := [.ref 5, .int (nI c)]) (rr := []) rfl rfl rfl ?_
                refine ax_in (ls := [some (.ref 5), some (.int (nI c))]) rfl ?_
                refine ax_s (pc' := 1) (st' := [.ref 5]) rfl rfl rfl rfl ?_
                refine ax_s (pc' := 2) (st' := [.int 0, .ref 5]) rfl rfl rfl rfl ?_
                refine ax_put rfl (hh_5 _ _ _) rfl rfl (show 12 + 1 ≤ _ from Nat.le_of_ble_eq_true rfl) rfl (am_hh_set _ _ _ 5 12 _ rfl) ?_
                refine ax_s (pc' := 6) (st' := [.int (nI c)]) rfl rfl rfl rfl ?_
                refine ax_r rfl rfl rfl ?_
                show am_ex (d + 4) 21 118 [some (.ref 5), some (.int (nI a)), some (.int (nI i)), some (.int (nI b)), some (.int (nI j)), some (.int (nI c))] [.int (nI c)] (am_hh X (am_u (am_uc S (8 + 1 * b) (va_cpy (S (8 + 1 * a)) (S (8 + 1 * b)) i j c)) 5 12 0) L) _
                refine ax_r rfl rfl rfl ?_
                exact k1
              · refine ax_s (pc' := 93) (st' := [.ref 5]) rfl rfl rfl rfl ?_
                refine ax_s (pc' := 94) (st' := [.int 2, .ref 5]) rfl rfl rfl rfl ?_
                refine ax_call (vs := [.ref 5, .int 2]) (rr := []) rfl rfl rfl ?_
                refine ax_in (ls := [some (.ref 5), some (.int 2)]) rfl ?_
                refine ax_s (pc' := 1) (st' := [.ref 5]) rfl rfl rfl rfl ?_
                refine ax_s (pc' := 2) (st' := [.int 2, .ref 5]) rfl rfl rfl rfl ?_
                refine ax_put rfl (hh_5 _ _ _) rfl rfl (show 12 + 1 ≤ _ from Nat.le_of_ble_eq_true rfl) rfl (am_hh_set _ _ _ 5 12 _ rfl) ?_
                refine ax_s (pc' := 8) (st' := [.int (-1000010)]) rfl rfl rfl rfl ?_
                refine ax_s (pc' := 9) (st' := [.int 2, .int (-1000010)]) rfl rfl rfl rfl ?_
                refine ax_s (pc' := 10) (st' := [.int ((-1000010) - 2)]) rfl rfl rfl rfl ?_
                refine ax_r rfl rfl rfl ?_
                show am_ex (d + 4) 21 97 [some (.ref 5), some (.int (nI a)), some (.int (nI i)), some (.int (nI b)), some (.int (nI j)), some (.int (nI c))] [.int ((-1000010) - 2)] (am_hh X (am_u S 5 12 2) L) _
                refine ax_r rfl rfl rfl ?_
                first | exact absurd (hg.2.2.2.2.2.2) c9 | exact absurd c9 (hg.2.2.2.2.2.2) | exact absurd (hg.2.2.2.2.2.2) (ne_true_of_eq_false c9)
        · refine ax_s (pc' := 40) (st' := [.ref 5]) rfl rfl rfl rfl ?_
          refine ax_s (pc' := 41) (st' := [.int 1, .ref 5]) rfl rfl rfl rfl ?_
          refine ax_call (vs := [.ref 5, .int 1]) (rr := []) rfl rfl rfl ?_
          refine ax_in (ls := [some (.ref 5), some (.int 1)]) rfl ?_
          refine ax_s (pc' := 1) (st' := [.ref 5]) rfl rfl rfl rfl ?_
          refine ax_s (pc' := 2) (st' := [.int 1, .ref 5]) rfl rfl rfl rfl ?_
          refine ax_put rfl (hh_5 _ _ _) rfl rfl (show 12 + 1 ≤ _ from Nat.le_of_ble_eq_true rfl) rfl (am_hh_set _ _ _ 5 12 _ rfl) ?_
          refine ax_s (pc' := 8) (st' := [.int (-1000010)]) rfl rfl rfl rfl ?_
          refine ax_s (pc' := 9) (st' := [.int 1, .int (-1000010)]) rfl rfl rfl rfl ?_
          refine ax_s (pc' := 10) (st' := [.int ((-1000010) - 1)]) rfl rfl rfl rfl ?_
          refine ax_r rfl rfl rfl ?_
          show am_ex (d + 4) 21 44 [some (.ref 5), some (.int (nI a)), some (.int (nI i)), some (.int (nI b)), some (.int (nI j)), some (.int (nI c))] [.int ((-1000010) - 1)] (am_hh X (am_u S 5 12 1) L) _
          refine ax_r rfl rfl rfl ?_
          first | exact absurd (hg.2.2.2.1) c4 | exact absurd c4 (hg.2.2.2.1) | exact absurd (hg.2.2.2.1) (ne_true_of_eq_false c4)
    · refine ax_s (pc' := 16) (st' := [.int (-1000001)]) rfl rfl rfl rfl ?_
      refine ax_r rfl rfl rfl ?_
      first | exact absurd (hg.2.1) c2 | exact absurd c2 (hg.2.1) | exact absurd (hg.2.1) (ne_true_of_eq_false c2)
theorem wv_m_copy {d : Nat} {X : Nat × (Nat → Int32)} {S : Nat → Nat → Int32} {L : Nat → Int64} {a i b j c : Nat} {Q : Option Value → am_H → Prop}  (hg : (¬ (nI a) < 0 ∧ ¬ 7 < (nI a)) ∧ (¬ (nI b) < 0 ∧ ¬ 7 < (nI b)) ∧ ¬ (S 287 a) < 0 ∧ 0 ≤ (S 287 b) ∧ (S 286 a) = (S 286 b) ∧ (¬ (nI i) < 0 ∧ ¬ (nI c) < 0 ∧ ¬ (S 287 a) < (nI c) ∧ ¬ (S 287 a) - (nI c) < (nI i)) ∧ (¬ (nI j) < 0 ∧ ¬ (nI c) < 0 ∧ ¬ (S 287 b) < (nI c) ∧ ¬ (S 287 b) - (nI c) < (nI j))) (x1 : ¬ (nI a) < 0 ∧ ¬ 7 < (nI a) → ¬ (nI b) < 0 ∧ ¬ 7 < (nI b) → a < 8) (x2 : ¬ (nI a) < 0 ∧ ¬ 7 < (nI a) → ¬ (nI b) < 0 ∧ ¬ 7 < (nI b) → ¬ (S 287 a) < 0 → b < 8) (k1 : (nI j) ≤ (nI i) → am_ex (d + 4) 154 122 [some (.ref 285), some (.int (nI a)), some (.int (nI i)), some (.int (nI b)), some (.int (nI j)), some (.int (nI c)), some (.int 0), some (.int 0), none] [] (am_hh X (am_u S 285 3 0) L) Q) (k2 : ¬ (nI j) ≤ (nI i) → am_ex (d + 4) 154 122 [some (.ref 285), some (.int (nI a)), some (.int (nI i)), some (.int (nI b)), some (.int (nI j)), some (.int (nI c)), some (.int 1), some (.int 0), none] [] (am_hh X (am_u S 285 3 0) L) Q) : am_mt (d + 4) 154 [.ref 285, .int (nI a), .int (nI i), .int (nI b), .int (nI j), .int (nI c)] (am_hh X S L) Q := by
  refine ax_in (ls := [some (.ref 285), some (.int (nI a)), some (.int (nI i)), some (.int (nI b)), some (.int (nI j)), some (.int (nI c)), none, none, none]) rfl ?_
  refine ax_s (pc' := 1) (st' := [.ref 285]) rfl rfl rfl rfl ?_
  refine ax_s (pc' := 2) (st' := [.int (nI a), .ref 285]) rfl rfl rfl rfl ?_
  refine ax_call (vs := [.ref 285, .int (nI a)]) (rr := []) rfl rfl rfl ?_
  refine mt_isRow ?_
  show am_ex (d + 4) 154 5 [some (.ref 285), some (.int (nI a)), some (.int (nI i)), some (.int (nI b)), some (.int (nI j)), some (.int (nI c)), none, none, none] [.int (bI (decide (¬ (nI a) < 0 ∧ ¬ 7 < (nI a))))] (am_hh X S L) _
  refine ax_pF rfl (fun c1 => ?_) (fun c1 => ?_)
  · refine ax_s (pc' := 18) (st' := [.int (-1000001)]) rfl rfl rfl rfl ?_
    refine ax_r rfl rfl rfl ?_
    first | exact absurd (hg.1) c1 | exact absurd c1 (hg.1) | exact absurd (hg.1) (ne_true_of_eq_false c1)
  · refine ax_s (pc' := 9) (st' := [.ref 285]) rfl rfl rfl rfl ?_
    refine ax_s (pc' := 10) (st' := [.int (nI b), .ref 285]) rfl rfl rfl rfl ?_
    refine ax_call (vs := [.ref 285, .int (nI b)]) (rr := []) rfl rfl rfl ?_
    refine mt_isRow ?_
    show am_ex (d + 4) 154 13 [some (.ref 285), some (.int (nI a)), some (.int (nI i)), some (.int (nI b)), some (.int (nI j)), some (.int (nI c)), none, none, none] [.int (bI (decide (¬ (nI b) < 0 ∧ ¬ 7 < (nI b))))] (am_hh X S L) _
    refine ax_pT rfl (fun c2 => ?_) (fun c2 => ?_)
    · refine ax_s (pc' := 20) (st' := [.ref 285]) rfl rfl rfl rfl ?_
      refine ax_get rfl (hh_285 _ _ _) rfl rfl rfl ?_
      show am_ex (d + 4) 154 23 [some (.ref 285), some (.int (nI a)), some (.int (nI i)), some (.int (nI b)), some (.int (nI j)), some (.int (nI c)), none, none, none] [.ref 287] (am_hh X S L) _
      refine ax_s (pc' := 24) (st' := [.int (nI a), .ref 287]) rfl rfl rfl rfl ?_
      refine ax_ald (j := a) (v := (S 287 a)) rfl (hh_287 _ _ _) rfl rfl (x1 c1 c2) (by decide) rfl ?_
      refine ax_if_lt rfl (fun c3 => ?_) (fun c3 => ?_)
      · refine ax_s (pc' := 38) (st' := [.ref 285]) rfl rfl rfl rfl ?_
        refine ax_s (pc' := 39) (st' := [.int 1, .ref 285]) rfl rfl rfl rfl ?_
        refine ax_call (vs := [.ref 285, .int 1]) (rr := []) rfl rfl rfl ?_
        refine ax_in (ls := [some (.ref 285), some (.int 1)]) rfl ?_
        refine ax_s (pc' := 1) (st' := [.ref 285]) rfl rfl rfl rfl ?_
        refine ax_s (pc' := 2) (st' := [.int 1, .ref 285]) rfl rfl rfl rfl ?_
        refine ax_put rfl (hh_285 _ _ _) rfl rfl (show 3 + 1 ≤ _ from Nat.le_of_ble_eq_true rfl) rfl (am_hh_set _ _ _ 285 3 _ rfl) ?_
        refine ax_s (pc' := 7) (st' := [.int (-1000010)]) rfl rfl rfl rfl ?_
        refine ax_s (pc' := 8) (st' := [.int 1, .int (-1000010)]) rfl rfl rfl rfl ?_
        refine ax_s (pc' := 9) (st' := [.int ((-1000010) - 1)]) rfl rfl rfl rfl ?_
        refine ax_r rfl rfl rfl ?_
        show am_ex (d + 4) 154 42 [some (.ref 285), some (.int (nI a)), some (.int (nI i)), some (.int (nI b)), some (.int (nI j)), some (.int (nI c)), none, none, none] [.int ((-1000010) - 1)] (am_hh X (am_u S 285 3 1) L) _
        refine ax_r rfl rfl rfl ?_
        first | exact absurd (hg.2.2.1) c3 | exact absurd c3 (hg.2.2.1) | exact absurd (hg.2.2.1) (ne_true_of_eq_false c3)
      · refine ax_s (pc' := 29) (st' := [.ref 285]) rfl rfl rfl rfl ?_
        refine ax_get rfl (hh_285 _ _ _) rfl rfl rfl ?_
        show am_ex (d + 4) 154 32 [some (.ref 285), some (.int (nI a)), some (.int (nI i)), some (.int (nI b)), some (.int (nI j)), some (.int (nI c)), none, none, none] [.ref 287] (am_hh X S L) _
        refine ax_s (pc' := 33) (st' := [.int (nI b), .ref 287]) rfl rfl rfl rfl ?_
        refine ax_ald (j := b) (v := (S 287 b)) rfl (hh_287 _ _ _) rfl rfl (x2 c1 c2 c3) (by decide) rfl ?_
        refine ax_if_ge rfl (fun c4 => ?_) (fun c4 => ?_)
        · refine ax_s (pc' := 44) (st' := [.ref 285]) rfl rfl rfl rfl ?_
          refine ax_get rfl (hh_285 _ _ _) rfl rfl rfl ?_
          show am_ex (d + 4) 154 47 [some (.ref 285), some (.int (nI a)), some (.int (nI i)), some (.int (nI b)), some (.int (nI j)), some (.int (nI c)), none, none, none] [.ref 286] (am_hh X S L) _
          refine ax_s (pc' := 48) (st' := [.int (nI a), .ref 286]) rfl rfl rfl rfl ?_
          refine ax_ald (j := a) (v := (S 286 a)) rfl (hh_286 _ _ _) rfl rfl (x1 c1 c2) (by decide) rfl ?_
          refine ax_s (pc' := 50) (st' := [.ref 285, .int (S 286 a)]) rfl rfl rfl rfl ?_
          refine ax_get rfl (hh_285 _ _ _) rfl rfl rfl ?_
          show am_ex (d + 4) 154 53 [some (.ref 285), some (.int (nI a)), some (.int (nI i)), some (.int (nI b)), some (.int (nI j)), some (.int (nI c)), none, none, none] [.ref 286, .int (S 286 a)] (am_hh X S L) _
          refine ax_s (pc' := 54) (st' := [.int (nI b), .ref 286, .int (S 286 a)]) rfl rfl rfl rfl ?_
          refine ax_ald (j := b) (v := (S 286 b)) rfl (hh_286 _ _ _) rfl rfl (x2 c1 c2 c3) (by decide) rfl ?_
          refine ax_cmp_eq rfl (fun c5 => ?_) (fun c5 => ?_)
          · refine ax_s (pc' := 65) (st' := [.int (nI i)]) rfl rfl rfl rfl ?_
            refine ax_s (pc' := 67) (st' := [.int (nI c), .int (nI i)]) rfl rfl rfl rfl ?_
            refine ax_s (pc' := 68) (st' := [.ref 285, .int (nI c), .int (nI i)]) rfl rfl rfl rfl ?_
            refine ax_get rfl (hh_285 _ _ _) rfl rfl rfl ?_
            show am_ex (d + 4) 154 71 [some (.ref 285), some (.int (nI a)), some (.int (nI i)), some (.int (nI b)), some (.int (nI j)), some (.int (nI c)), none, none, none] [.ref 287, .int (nI c), .int (nI i)] (am_hh X S L) _
            refine ax_s (pc' := 72) (st' := [.int (nI a), .ref 287, .int (nI c), .int (nI i)]) rfl rfl rfl rfl ?_
            refine ax_ald (j := a) (v := (S 287 a)) rfl (hh_287 _ _ _) rfl rfl (x1 c1 c2) (by decide) rfl ?_
            refine ax_call (vs := [.int (nI i), .int (nI c), .int (S 287 a)]) (rr := []) rfl rfl rfl ?_
            refine mt_isPart ?_
            show am_ex (d + 4) 154 76 [some (.ref 285), some (.int (nI a)), some (.int (nI i)), some (.int (nI b)), some (.int (nI j)), some (.int (nI c)), none, none, none] [.int (bI (decide (¬ (nI i) < 0 ∧ ¬ (nI c) < 0 ∧ ¬ (S 287 a) < (nI c) ∧ ¬ (S 287 a) - (nI c) < (nI i))))] (am_hh X S L) _
            refine ax_pF rfl (fun c6 => ?_) (fun c6 => ?_)
            · refine ax_s (pc' := 96) (st' := [.ref 285]) rfl rfl rfl rfl ?_
              refine ax_s (pc' := 97) (st' := [.int 2, .ref 285]) rfl rfl rfl rfl ?_
              refine ax_call (vs := [.ref 285, .int 2]) (rr := []) rfl rfl rfl ?_
              refine ax_in (ls := [some (.ref 285), some (.int 2)]) rfl ?_
              refine ax_s (pc' := 1) (st' := [.ref 285]) rfl rfl rfl rfl ?_
              refine ax_s (pc' := 2) (st' := [.int 2, .ref 285]) rfl rfl rfl rfl ?_
              refine ax_put rfl (hh_285 _ _ _) rfl rfl (show 3 + 1 ≤ _ from Nat.le_of_ble_eq_true rfl) rfl (am_hh_set _ _ _ 285 3 _ rfl) ?_
              refine ax_s (pc' := 7) (st' := [.int (-1000010)]) rfl rfl rfl rfl ?_
              refine ax_s (pc' := 8) (st' := [.int 2, .int (-1000010)]) rfl rfl rfl rfl ?_
              refine ax_s (pc' := 9) (st' := [.int ((-1000010) - 2)]) rfl rfl rfl rfl ?_
              refine ax_r rfl rfl rfl ?_
              show am_ex (d + 4) 154 100 [some (.ref 285), some (.int (nI a)), some (.int (nI i)), some (.int (nI b)), some (.int (nI j)), some (.int (nI c)), none, none, none] [.int ((-1000010) - 2)] (am_hh X (am_u S 285 3 2) L) _
              refine ax_r rfl rfl rfl ?_
              first | exact absurd (hg.2.2.2.2.2.1) c6 | exact absurd c6 (hg.2.2.2.2.2.1) | exact absurd (hg.2.2.2.2.2.1) (ne_true_of_eq_false c6)
            · refine ax_s (pc' := 81) (st' := [.int (nI j)]) rfl rfl rfl rfl ?_
              refine ax_s (pc' := 83) (st' := [.int (nI c), .int (nI j)]) rfl rfl rfl rfl ?_
              refine ax_s (pc' := 84) (st' := [.ref 285, .int (nI c), .int (nI j)]) rfl rfl rfl rfl ?_
              refine ax_get rfl (hh_285 _ _ _) rfl rfl rfl ?_
              show am_ex (d + 4) 154 87 [some (.ref 285), some (.int (nI a)), some (.int (nI i)), some (.int (nI b)), some (.int (nI j)), some (.int (nI c)), none, none, none] [.ref 287, .int (nI c), .int (nI j)] (am_hh X S L) _
              refine ax_s (pc' := 88) (st' := [.int (nI b), .ref 287, .int (nI c), .int (nI j)]) rfl rfl rfl rfl ?_
              refine ax_ald (j := b) (v := (S 287 b)) rfl (hh_287 _ _ _) rfl rfl (x2 c1 c2 c3) (by decide) rfl ?_
              refine ax_call (vs := [.int (nI j), .int (nI c), .int (S 287 b)]) (rr := []) rfl rfl rfl ?_
              refine mt_isPart ?_
              show am_ex (d + 4) 154 92 [some (.ref 285), some (.int (nI a)), some (.int (nI i)), some (.int (nI b)), some (.int (nI j)), some (.int (nI c)), none, none, none] [.int (bI (decide (¬ (nI j) < 0 ∧ ¬ (nI c) < 0 ∧ ¬ (S 287 b) < (nI c) ∧ ¬ (S 287 b) - (nI c) < (nI j))))] (am_hh X S L) _
              refine ax_pT rfl (fun c7 => ?_) (fun c7 => ?_)
              · refine ax_s (pc' := 102) (st' := [.ref 285]) rfl rfl rfl rfl ?_
                refine ax_s (pc' := 103) (st' := [.int 0, .ref 285]) rfl rfl rfl rfl ?_
                refine ax_put rfl (hh_285 _ _ _) rfl rfl (show 3 + 1 ≤ _ from Nat.le_of_ble_eq_true rfl) rfl (am_hh_set _ _ _ 285 3 _ rfl) ?_
                refine ax_s (pc' := 108) (st' := [.int (nI j)]) rfl rfl rfl rfl ?_
                refine ax_s (pc' := 109) (st' := [.int (nI i), .int (nI j)]) rfl rfl rfl rfl ?_
                refine ax_cmp_le rfl (fun c8 => ?_) (fun c8 => ?_)
                · refine ax_s (pc' := 117) (st' := [.int 0]) rfl rfl rfl rfl ?_
                  refine ax_s (pc' := 119) (ls' := [some (.ref 285), some (.int (nI a)), some (.int (nI i)), some (.int (nI b)), some (.int (nI j)), some (.int (nI c)), some (.int 0), none, none]) (st' := []) rfl rfl rfl rfl ?_
                  refine ax_s (pc' := 120) (st' := [.int 0]) rfl rfl rfl rfl ?_
                  refine ax_s (pc' := 122) (ls' := [some (.ref 285), some (.int (nI a)), some (.int (nI i)), some (.int (nI b)), some (.int (nI j)), some (.int (nI c)), some (.int 0), some (.int 0), none]) (st' := []) rfl rfl rfl rfl ?_
                  exact k1 c8
                · refine ax_s (pc' := 113) (st' := [.int 1]) rfl rfl rfl rfl ?_
                  refine ax_s (pc' := 117) (st' := [.int 1]) rfl rfl rfl rfl ?_
                  refine ax_s (pc' := 119) (ls' := [some (.ref 285), some (.int (nI a)), some (.int (nI i)), some (.int (nI b)), some (.int (nI j)), some (.int (nI c)), some (.int 1), none, none]) (st' := []) rfl rfl rfl rfl ?_
                  refine ax_s (pc' := 120) (st' := [.int 0]) rfl rfl rfl rfl ?_
                  refine ax_s (pc' := 122) (ls' := [some (.ref 285), some (.int (nI a)), some (.int (nI i)), some (.int (nI b)), some (.int (nI j)), some (.int (nI c)), some (.int 1), some (.int 0), none]) (st' := []) rfl rfl rfl rfl ?_
                  exact k2 c8
              · refine ax_s (pc' := 96) (st' := [.ref 285]) rfl rfl rfl rfl ?_
                refine ax_s (pc' := 97) (st' := [.int 2, .ref 285]) rfl rfl rfl rfl ?_
                refine ax_call (vs := [.ref 285, .int 2]) (rr := []) rfl rfl rfl ?_
                refine ax_in (ls := [some (.ref 285), some (.int 2)]) rfl ?_
                refine ax_s (pc' := 1) (st' := [.ref 285]) rfl rfl rfl rfl ?_
                refine ax_s (pc' := 2) (st' := [.int 2, .ref 285]) rfl rfl rfl rfl ?_
                refine ax_put rfl (hh_285 _ _ _) rfl rfl (show 3 + 1 ≤ _ from Nat.le_of_ble_eq_true rfl) rfl (am_hh_set _ _ _ 285 3 _ rfl) ?_
                refine ax_s (pc' := 7) (st' := [.int (-1000010)]) rfl rfl rfl rfl ?_
                refine ax_s (pc' := 8) (st' := [.int 2, .int (-1000010)]) rfl rfl rfl rfl ?_
                refine ax_s (pc' := 9) (st' := [.int ((-1000010) - 2)]) rfl rfl rfl rfl ?_
                refine ax_r rfl rfl rfl ?_
                show am_ex (d + 4) 154 100 [some (.ref 285), some (.int (nI a)), some (.int (nI i)), some (.int (nI b)), some (.int (nI j)), some (.int (nI c)), none, none, none] [.int ((-1000010) - 2)] (am_hh X (am_u S 285 3 2) L) _
                refine ax_r rfl rfl rfl ?_
                first | exact absurd (hg.2.2.2.2.2.2) c7 | exact absurd c7 (hg.2.2.2.2.2.2) | exact absurd (hg.2.2.2.2.2.2) (ne_true_of_eq_false c7)
          · refine ax_s (pc' := 59) (st' := [.ref 285]) rfl rfl rfl rfl ?_
            refine ax_s (pc' := 60) (st' := [.int 5, .ref 285]) rfl rfl rfl rfl ?_
            refine ax_call (vs := [.ref 285, .int 5]) (rr := []) rfl rfl rfl ?_
            refine ax_in (ls := [some (.ref 285), some (.int 5)]) rfl ?_
            refine ax_s (pc' := 1) (st' := [.ref 285]) rfl rfl rfl rfl ?_
            refine ax_s (pc' := 2) (st' := [.int 5, .ref 285]) rfl rfl rfl rfl ?_
            refine ax_put rfl (hh_285 _ _ _) rfl rfl (show 3 + 1 ≤ _ from Nat.le_of_ble_eq_true rfl) rfl (am_hh_set _ _ _ 285 3 _ rfl) ?_
            refine ax_s (pc' := 7) (st' := [.int (-1000010)]) rfl rfl rfl rfl ?_
            refine ax_s (pc' := 8) (st' := [.int 5, .int (-1000010)]) rfl rfl rfl rfl ?_
            refine ax_s (pc' := 9) (st' := [.int ((-1000010) - 5)]) rfl rfl rfl rfl ?_
            refine ax_r rfl rfl rfl ?_
            show am_ex (d + 4) 154 63 [some (.ref 285), some (.int (nI a)), some (.int (nI i)), some (.int (nI b)), some (.int (nI j)), some (.int (nI c)), none, none, none] [.int ((-1000010) - 5)] (am_hh X (am_u S 285 3 5) L) _
            refine ax_r rfl rfl rfl ?_
            first | exact absurd (hg.2.2.2.2.1) c5 | exact absurd c5 (hg.2.2.2.2.1) | exact absurd (hg.2.2.2.2.1) (ne_true_of_eq_false c5)
        · refine ax_s (pc' := 38) (st' := [.ref 285]) rfl rfl rfl rfl ?_
          refine ax_s (pc' := 39) (st' := [.int 1, .ref 285]) rfl rfl rfl rfl ?_
          refine ax_call (vs := [.ref 285, .int 1]) (rr := []) rfl rfl rfl ?_
          refine ax_in (ls := [some (.ref 285), some (.int 1)]) rfl ?_
          refine ax_s (pc' := 1) (st' := [.ref 285]) rfl rfl rfl rfl ?_
          refine ax_s (pc' := 2) (st' := [.int 1, .ref 285]) rfl rfl rfl rfl ?_
          refine ax_put rfl (hh_285 _ _ _) rfl rfl (show 3 + 1 ≤ _ from Nat.le_of_ble_eq_true rfl) rfl (am_hh_set _ _ _ 285 3 _ rfl) ?_
          refine ax_s (pc' := 7) (st' := [.int (-1000010)]) rfl rfl rfl rfl ?_
          refine ax_s (pc' := 8) (st' := [.int 1, .int (-1000010)]) rfl rfl rfl rfl ?_
          refine ax_s (pc' := 9) (st' := [.int ((-1000010) - 1)]) rfl rfl rfl rfl ?_
          refine ax_r rfl rfl rfl ?_
          show am_ex (d + 4) 154 42 [some (.ref 285), some (.int (nI a)), some (.int (nI i)), some (.int (nI b)), some (.int (nI j)), some (.int (nI c)), none, none, none] [.int ((-1000010) - 1)] (am_hh X (am_u S 285 3 1) L) _
          refine ax_r rfl rfl rfl ?_
          first | exact absurd (hg.2.2.2.1) c4 | exact absurd c4 (hg.2.2.2.1) | exact absurd (hg.2.2.2.1) (ne_true_of_eq_false c4)
    · refine ax_s (pc' := 18) (st' := [.int (-1000001)]) rfl rfl rfl rfl ?_
      refine ax_r rfl rfl rfl ?_
      first | exact absurd (hg.2.1) c2 | exact absurd c2 (hg.2.1) | exact absurd (hg.2.1) (ne_true_of_eq_false c2)
theorem wl_mcopy0 {d : Nat} {X : Nat × (Nat → Int32)} {S : Nat → Nat → Int32} {L : Nat → Int64} {a i b j c k : Nat} {y8 : Option Value} {Q : Option Value → am_H → Prop}  (x1 : ¬ (nI c) ≤ (nI k) → (((40 * a) + i) + k) < 320) (x2 : ¬ (nI c) ≤ (nI k) → (((40 * b) + j) + k) < 320) (k1 : (nI c) ≤ (nI k) → Q (some (.int (nI c))) (am_hh X S L)) (k2 : ¬ (nI c) ≤ (nI k) → am_ex (d + 4) 154 122 [some (.ref 285), some (.int (nI a)), some (.int (nI i)), some (.int (nI b)), some (.int (nI j)), some (.int (nI c)), some (.int 0), some (.int (nI (k + 1))), some (.int (nI k))] [] (am_hh X (am_u S 288 (((40 * b) + j) + k) (S 288 (((40 * a) + i) + k))) L) Q) : am_ex (d + 4) 154 122 [some (.ref 285), some (.int (nI a)), some (.int (nI i)), some (.int (nI b)), some (.int (nI j)), some (.int (nI c)), some (.int 0), some (.int (nI k)), y8] [] (am_hh X S L) Q := by
  refine ax_s (pc' := 124) (st' := [.int (nI k)]) rfl rfl rfl rfl ?_
  refine ax_s (pc' := 126) (st' := [.int (nI c), .int (nI k)]) rfl rfl rfl rfl ?_
  refine ax_cmp_ge rfl (fun c1 => ?_) (fun c1 => ?_)
  · refine ax_s (pc' := 185) (st' := [.int (nI c)]) rfl rfl rfl rfl ?_
    refine ax_r rfl rfl rfl ?_
    exact k1 c1
  · refine ax_s (pc' := 131) (st' := [.int 0]) rfl rfl rfl rfl ?_
    refine ax_if_eq rfl (fun c2 => ?_) (fun c2 => False.elim (by revert c2; decide))
    refine ax_s (pc' := 146) (st' := [.int (nI k)]) rfl rfl rfl rfl ?_
    refine ax_s (pc' := 148) (ls' := [some (.ref 285), some (.int (nI a)), some (.int (nI i)), some (.int (nI b)), some (.int (nI j)), some (.int (nI c)), some (.int 0), some (.int (nI k)), some (.int (nI k))]) (st' := []) rfl rfl rfl rfl ?_
    refine ax_s (pc' := 149) (st' := [.ref 285]) rfl rfl rfl rfl ?_
    refine ax_get rfl (hh_285 _ _ _) rfl rfl rfl ?_
    show am_ex (d + 4) 154 152 [some (.ref 285), some (.int (nI a)), some (.int (nI i)), some (.int (nI b)), some (.int (nI j)), some (.int (nI c)), some (.int 0), some (.int (nI k)), some (.int (nI k))] [.ref 288] (am_hh X S L) _
    refine ax_s (pc' := 154) (st' := [.int 40, .ref 288]) rfl rfl rfl rfl ?_
    refine ax_s (pc' := 155) (st' := [.int (nI b), .int 40, .ref 288]) rfl rfl rfl rfl ?_
    refine ax_s (pc' := 156) (st' := [.int (40 * (nI b)), .ref 288]) rfl rfl rfl rfl ?_
    refine ax_s (pc' := 158) (st' := [.int (nI j), .int (40 * (nI b)), .ref 288]) rfl rfl rfl rfl ?_
    refine ax_s (pc' := 159) (st' := [.int ((40 * (nI b)) + (nI j)), .ref 288]) rfl rfl rfl rfl ?_
    refine ax_s (pc' := 161) (st' := [.int (nI k), .int ((40 * (nI b)) + (nI j)), .ref 288]) rfl rfl rfl rfl ?_
    refine ax_s (pc' := 162) (st' := [.int (((40 * (nI b)) + (nI j)) + (nI k)), .ref 288]) rfl rfl rfl rfl ?_
    refine ax_s (pc' := 163) (st' := [.ref 285, .int (((40 * (nI b)) + (nI j)) + (nI k)), .ref 288]) rfl rfl rfl rfl ?_
    refine ax_get rfl (hh_285 _ _ _) rfl rfl rfl ?_
    show am_ex (d + 4) 154 166 [some (.ref 285), some (.int (nI a)), some (.int (nI i)), some (.int (nI b)), some (.int (nI j)), some (.int (nI c)), some (.int 0), some (.int (nI k)), some (.int (nI k))] [.ref 288, .int (((40 * (nI b)) + (nI j)) + (nI k)), .ref 288] (am_hh X S L) _
    refine ax_s (pc' := 168) (st' := [.int 40, .ref 288, .int (((40 * (nI b)) + (nI j)) + (nI k)), .ref 288]) rfl rfl rfl rfl ?_
    refine ax_s (pc' := 169) (st' := [.int (nI a), .int 40, .ref 288, .int (((40 * (nI b)) + (nI j)) + (nI k)), .ref 288]) rfl rfl rfl rfl ?_
    refine ax_s (pc' := 170) (st' := [.int (40 * (nI a)), .ref 288, .int (((40 * (nI b)) + (nI j)) + (nI k)), .ref 288]) rfl rfl rfl rfl ?_
    refine ax_s (pc' := 171) (st' := [.int (nI i), .int (40 * (nI a)), .ref 288, .int (((40 * (nI b)) + (nI j)) + (nI k)), .ref 288]) rfl rfl rfl rfl ?_
    refine ax_s (pc' := 172) (st' := [.int ((40 * (nI a)) + (nI i)), .ref 288, .int (((40 * (nI b)) + (nI j)) + (nI k)), .ref 288]) rfl rfl rfl rfl ?_
    refine ax_s (pc' := 174) (st' := [.int (nI k), .int ((40 * (nI a)) + (nI i)), .ref 288, .int (((40 * (nI b)) + (nI j)) + (nI k)), .ref 288]) rfl rfl rfl rfl ?_
    refine ax_s (pc' := 175) (st' := [.int (((40 * (nI a)) + (nI i)) + (nI k)), .ref 288, .int (((40 * (nI b)) + (nI j)) + (nI k)), .ref 288]) rfl rfl rfl rfl ?_
    refine ax_ald (j := (((40 * a) + i) + k)) (v := (S 288 (((40 * a) + i) + k))) rfl (hh_288 _ _ _) rfl (am_na (x := ((40 * a) + i)) (y := k) (am_na (x := (40 * a)) (y := i) (am_nm (x := 40) (y := a) rfl rfl) rfl) rfl) (x1 c1) (by decide) rfl ?_
    refine ax_ast (j := (((40 * b) + j) + k)) rfl (hh_288 _ _ _) rfl (am_na (x := ((40 * b) + j)) (y := k) (am_na (x := (40 * b)) (y := j) (am_nm (x := 40) (y := b) rfl rfl) rfl) rfl) (x2 c1) (by decide) (am_hh_set _ _ _ 288 (((40 * b) + j) + k) _ rfl) ?_
    refine ax_s (pc' := 180) (ls' := [some (.ref 285), some (.int (nI a)), some (.int (nI i)), some (.int (nI b)), some (.int (nI j)), some (.int (nI c)), some (.int 0), some (.int ((nI k) + 1)), some (.int (nI k))]) (st' := []) rfl rfl rfl rfl ?_
    rw [nI_1]
    refine ax_s (pc' := 122) (st' := []) rfl rfl rfl rfl ?_
    exact k2 c1
theorem wl_mcopy1 {d : Nat} {X : Nat × (Nat → Int32)} {S : Nat → Nat → Int32} {L : Nat → Int64} {a i b j c k : Nat} {y8 : Option Value} {Q : Option Value → am_H → Prop} (hd : ¬ nI c ≤ nI k → nI c - 1 - nI k = nI (c - 1 - k))  (x1 : ¬ (nI c) ≤ (nI k) → (((40 * a) + i) + (c - 1 - k)) < 320) (x2 : ¬ (nI c) ≤ (nI k) → (((40 * b) + j) + (c - 1 - k)) < 320) (k1 : (nI c) ≤ (nI k) → Q (some (.int (nI c))) (am_hh X S L)) (k2 : ¬ (nI c) ≤ (nI k) → am_ex (d + 4) 154 122 [some (.ref 285), some (.int (nI a)), some (.int (nI i)), some (.int (nI b)), some (.int (nI j)), some (.int (nI c)), some (.int 1), some (.int (nI (k + 1))), some (.int (((nI c) - 1) - (nI k)))] [] (am_hh X (am_u S 288 (((40 * b) + j) + (c - 1 - k)) (S 288 (((40 * a) + i) + (c - 1 - k)))) L) Q) : am_ex (d + 4) 154 122 [some (.ref 285), some (.int (nI a)), some (.int (nI i)), some (.int (nI b)), some (.int (nI j)), some (.int (nI c)), some (.int 1), some (.int (nI k)), y8] [] (am_hh X S L) Q := by
  refine ax_s (pc' := 124) (st' := [.int (nI k)]) rfl rfl rfl rfl ?_
  refine ax_s (pc' := 126) (st' := [.int (nI c), .int (nI k)]) rfl rfl rfl rfl ?_
  refine ax_cmp_ge rfl (fun c1 => ?_) (fun c1 => ?_)
  · refine ax_s (pc' := 185) (st' := [.int (nI c)]) rfl rfl rfl rfl ?_
    refine ax_r rfl rfl rfl ?_
    exact k1 c1
  · refine ax_s (pc' := 131) (st' := [.int 1]) rfl rfl rfl rfl ?_
    refine ax_if_eq rfl (fun c2 => False.elim (by revert c2; decide)) (fun c2 => ?_)
    refine ax_s (pc' := 136) (st' := [.int (nI c)]) rfl rfl rfl rfl ?_
    refine ax_s (pc' := 137) (st' := [.int 1, .int (nI c)]) rfl rfl rfl rfl ?_
    refine ax_s (pc' := 138) (st' := [.int ((nI c) - 1)]) rfl rfl rfl rfl ?_
    refine ax_s (pc' := 140) (st' := [.int (nI k), .int ((nI c) - 1)]) rfl rfl rfl rfl ?_
    refine ax_s (pc' := 141) (st' := [.int (((nI c) - 1) - (nI k))]) rfl rfl rfl rfl ?_
    refine ax_s (pc' := 146) (st' := [.int (((nI c) - 1) - (nI k))]) rfl rfl rfl rfl ?_
    refine ax_s (pc' := 148) (ls' := [some (.ref 285), some (.int (nI a)), some (.int (nI i)), some (.int (nI b)), some (.int (nI j)), some (.int (nI c)), some (.int 1), some (.int (nI k)), some (.int (((nI c) - 1) - (nI k)))]) (st' := []) rfl rfl rfl rfl ?_
    refine ax_s (pc' := 149) (st' := [.ref 285]) rfl rfl rfl rfl ?_
    refine ax_get rfl (hh_285 _ _ _) rfl rfl rfl ?_
    show am_ex (d + 4) 154 152 [some (.ref 285), some (.int (nI a)), some (.int (nI i)), some (.int (nI b)), some (.int (nI j)), some (.int (nI c)), some (.int 1), some (.int (nI k)), some (.int (((nI c) - 1) - (nI k)))] [.ref 288] (am_hh X S L) _
    refine ax_s (pc' := 154) (st' := [.int 40, .ref 288]) rfl rfl rfl rfl ?_
    refine ax_s (pc' := 155) (st' := [.int (nI b), .int 40, .ref 288]) rfl rfl rfl rfl ?_
    refine ax_s (pc' := 156) (st' := [.int (40 * (nI b)), .ref 288]) rfl rfl rfl rfl ?_
    refine ax_s (pc' := 158) (st' := [.int (nI j), .int (40 * (nI b)), .ref 288]) rfl rfl rfl rfl ?_
    refine ax_s (pc' := 159) (st' := [.int ((40 * (nI b)) + (nI j)), .ref 288]) rfl rfl rfl rfl ?_
    refine ax_s (pc' := 161) (st' := [.int (((nI c) - 1) - (nI k)), .int ((40 * (nI b)) + (nI j)), .ref 288]) rfl rfl rfl rfl ?_
    refine ax_s (pc' := 162) (st' := [.int (((40 * (nI b)) + (nI j)) + (((nI c) - 1) - (nI k))), .ref 288]) rfl rfl rfl rfl ?_
    refine ax_s (pc' := 163) (st' := [.ref 285, .int (((40 * (nI b)) + (nI j)) + (((nI c) - 1) - (nI k))), .ref 288]) rfl rfl rfl rfl ?_
    refine ax_get rfl (hh_285 _ _ _) rfl rfl rfl ?_
    show am_ex (d + 4) 154 166 [some (.ref 285), some (.int (nI a)), some (.int (nI i)), some (.int (nI b)), some (.int (nI j)), some (.int (nI c)), some (.int 1), some (.int (nI k)), some (.int (((nI c) - 1) - (nI k)))] [.ref 288, .int (((40 * (nI b)) + (nI j)) + (((nI c) - 1) - (nI k))), .ref 288] (am_hh X S L) _
    refine ax_s (pc' := 168) (st' := [.int 40, .ref 288, .int (((40 * (nI b)) + (nI j)) + (((nI c) - 1) - (nI k))), .ref 288]) rfl rfl rfl rfl ?_
    refine ax_s (pc' := 169) (st' := [.int (nI a), .int 40, .ref 288, .int (((40 * (nI b)) + (nI j)) + (((nI c) - 1) - (nI k))), .ref 288]) rfl rfl rfl rfl ?_
    refine ax_s (pc' := 170) (st' := [.int (40 * (nI a)), .ref 288, .int (((40 * (nI b)) + (nI j)) + (((nI c) - 1) - (nI k))), .ref 288]) rfl rfl rfl rfl ?_
    refine ax_s (pc' := 171) (st' := [.int (nI i), .int (40 * (nI a)), .ref 288, .int (((40 * (nI b)) + (nI j)) + (((nI c) - 1) - (nI k))), .ref 288]) rfl rfl rfl rfl ?_
    refine ax_s (pc' := 172) (st' := [.int ((40 * (nI a)) + (nI i)), .ref 288, .int (((40 * (nI b)) + (nI j)) + (((nI c) - 1) - (nI k))), .ref 288]) rfl rfl rfl rfl ?_
    refine ax_s (pc' := 174) (st' := [.int (((nI c) - 1) - (nI k)), .int ((40 * (nI a)) + (nI i)), .ref 288, .int (((40 * (nI b)) + (nI j)) + (((nI c) - 1) - (nI k))), .ref 288]) rfl rfl rfl rfl ?_
    refine ax_s (pc' := 175) (st' := [.int (((40 * (nI a)) + (nI i)) + (((nI c) - 1) - (nI k))), .ref 288, .int (((40 * (nI b)) + (nI j)) + (((nI c) - 1) - (nI k))), .ref 288]) rfl rfl rfl rfl ?_
    refine ax_ald (j := (((40 * a) + i) + (c - 1 - k))) (v := (S 288 (((40 * a) + i) + (c - 1 - k)))) rfl (hh_288 _ _ _) rfl (am_na (x := ((40 * a) + i)) (y := (c - 1 - k)) (am_na (x := (40 * a)) (y := i) (am_nm (x := 40) (y := a) rfl rfl) rfl) (hd (by assumption))) (x1 c1) (by decide) rfl ?_
    refine ax_ast (j := (((40 * b) + j) + (c - 1 - k))) rfl (hh_288 _ _ _) rfl (am_na (x := ((40 * b) + j)) (y := (c - 1 - k)) (am_na (x := (40 * b)) (y := j) (am_nm (x := 40) (y := b) rfl rfl) rfl) (hd (by assumption))) (x2 c1) (by decide) (am_hh_set _ _ _ 288 (((40 * b) + j) + (c - 1 - k)) _ rfl) ?_
    refine ax_s (pc' := 180) (ls' := [some (.ref 285), some (.int (nI a)), some (.int (nI i)), some (.int (nI b)), some (.int (nI j)), some (.int (nI c)), some (.int 1), some (.int ((nI k) + 1)), some (.int (((nI c) - 1) - (nI k)))]) (st' := []) rfl rfl rfl rfl ?_
    rw [nI_1]
    refine ax_s (pc' := 122) (st' := []) rfl rfl rfl rfl ?_
    exact k2 c1
