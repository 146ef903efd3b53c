section PZ2
variable {d : Nat} {X : Nat × (Nat → Int32)} {S : Nat → Nat → Int32} {L : Nat → Int64} {b : Nat → Int32} {len a j : Nat} {x : Int32} {Q : Option Value → am_H → Prop}
theorem kt_byteAt (hl : S 18 2 = nI len) (hl1 : len ≤ 100) (hb : ∀ i, i < 100 → S 19 i = b i) (hx : x = nI j) (hj : j < 2 ^ 31) (hQ : Q (some (.int (pz_by b len j))) (am_hh X S L)) : am_mt (d + 1) 32 [.ref 18, .int x] (am_hh X S L) Q := by
  subst hx
  unfold pz_by at hQ
  refine wp_byteAt hl (fun _ c => ?_) (fun c => absurd c (nI_pos hj)) (fun _ c => ?_) (fun _ c => ?_)
  · rw [hl, nI_leI (by omega) hj] at c; omega
  · rw [hl, nI_leI (by omega) hj] at c
    rw [if_neg (by omega)] at hQ
    exact hQ
  · rw [hl, nI_leI (by omega) hj] at c
    rw [if_pos (by omega)] at hQ
    rw [hb j (by omega)]
    exact hQ
theorem kt_isFigure (hQ : Q (some (.int (bI (decide (¬ x < 48 ∧ ¬ 57 < x))))) (am_hh X S L)) : am_mt (d + 1) 34 [.int x] (am_hh X S L) Q := by
  refine w_isFigure ?_
  have e : bI (decide (¬ x < 48 ∧ ¬ 57 < x)) = e_isFigure S x := by
    unfold e_isFigure
    by_cases h1 : x < 48
    · rw [if_pos h1, decide_eq_false (fun z => z.1 h1)]; rfl
    · rw [if_neg h1]
      by_cases h2 : 57 < x
      · rw [if_pos h2, decide_eq_false (fun z => z.2 h2)]; rfl
      · rw [if_neg h2, decide_eq_true ⟨h1, h2⟩]; rfl
  rw [← e]
  exact hQ
theorem kt_kindOf (hQ : Q (some (.int (pz_kind x))) (am_hh X S L)) : am_mt (d + 1) 39 [.int x] (am_hh X S L) Q := w_kindOf hQ
theorem mt_sortBy (hQ : Q (some (.int (pz_kind x))) (am_hh X S L)) : am_mt (d + 1) 166 [.int x] (am_hh X S L) Q := by
  refine w_sortBy ?_
  have e : pz_kind x = e_sortBy S x := by
    unfold e_sortBy pz_kind
    by_cases h1 : x = 99
    · subst h1; decide
    · by_cases h2 : x = 102
      · subst h2; decide
      · by_cases h3 : x = 103
        · subst h3; decide
        · by_cases h4 : x = 108
          · subst h4; decide
          · rw [if_neg h1, if_neg h2, if_neg h3, if_neg h4, if_neg h2, if_neg h4, if_neg h3, if_neg h1]
  rw [← e]
  exact hQ
theorem mt_here (ha : S 285 21 = nI a) (ha1 : a < 2 ^ 31) (hl : S 285 5 = nI len) (hl1 : len ≤ 100) (hb : ∀ i, i < 100 → S 289 i = b i) (hQ : Q (some (.int (pz_by b len a))) (am_hh X S L)) : am_mt (d + 1) 161 [.ref 285] (am_hh X S L) Q := by
  unfold pz_by at hQ
  refine wp_here ha hl (fun c => ?_) (fun c => ?_) (fun c => ?_)
  · rw [hl, ha, nI_leI (by omega) ha1] at c; omega
  · rw [hl, ha, nI_leI (by omega) ha1] at c
    rw [if_neg (by omega)] at hQ
    exact hQ
  · rw [hl, ha, nI_leI (by omega) ha1] at c
    rw [if_pos (by omega)] at hQ
    rw [hb a (by omega)]
    exact hQ
end PZ2
