theorem wp_nr {d : Nat} {X : Nat × (Nat → Int32)} {S : Nat → Nat → Int32} {L : Nat → Int64} {l : Nat} {Q : Option Value → am_H → Prop} (hl : S 20 4 - 1 = nI l)  (k1 : am_ex (d + 2) 94 14 [some (.ref 277), some (.int ((S 20 4) - 1)), some (.int (((S 20 4) - 1) - 1)), none, none, none] [] (am_hh X S L) Q) : am_mt (d + 2) 94 [.ref 277] (am_hh X S L) Q := by
  refine ax_in (ls := [some (.ref 277), none, none, none, none, none]) rfl ?_
  refine ax_s (pc' := 1) (st' := [.ref 277]) rfl rfl rfl rfl ?_
  refine ax_get rfl (hh_277 _ _ _) rfl rfl rfl ?_
  show am_ex (d + 2) 94 4 [some (.ref 277), none, none, none, none, none] [.ref 20] (am_hh X S L) _
  refine ax_get rfl (hh_20 _ _ _) rfl rfl rfl ?_
  show am_ex (d + 2) 94 7 [some (.ref 277), none, none, none, none, none] [.int (S 20 4)] (am_hh X S L) _
  refine ax_s (pc' := 8) (st' := [.int 1, .int (S 20 4)]) rfl rfl rfl rfl ?_
  refine ax_s (pc' := 9) (st' := [.int ((S 20 4) - 1)]) rfl rfl rfl rfl ?_
  refine ax_s (pc' := 10) (ls' := [some (.ref 277), some (.int ((S 20 4) - 1)), none, none, none, none]) (st' := []) rfl rfl rfl rfl ?_
  refine ax_s (pc' := 11) (st' := [.int ((S 20 4) - 1)]) rfl rfl rfl rfl ?_
  refine ax_s (pc' := 12) (st' := [.int 1, .int ((S 20 4) - 1)]) rfl rfl rfl rfl ?_
  refine ax_s (pc' := 13) (st' := [.int (((S 20 4) - 1) - 1)]) rfl rfl rfl rfl ?_
  refine ax_s (pc' := 14) (ls' := [some (.ref 277), some (.int ((S 20 4) - 1)), some (.int (((S 20 4) - 1) - 1)), none, none, none]) (st' := []) rfl rfl rfl rfl ?_
  exact k1
theorem wl_nr0 {d : Nat} {X : Nat × (Nat → Int32)} {S : Nat → Nat → Int32} {L : Nat → Int64} {l : Nat} {y3 y4 y5 : Option Value} {Q : Option Value → am_H → Prop}  (k1 : Q (some (.int 0)) (am_hh X S L)) : am_ex (d + 2) 94 14 [some (.ref 277), some (.int (nI l)), some (.int (-1)), y3, y4, y5] [] (am_hh X S L) Q := by
  refine ax_s (pc' := 15) (st' := [.int (-1)]) rfl rfl rfl rfl ?_
  refine ax_if_lt rfl (fun c1 => ?_) (fun c1 => False.elim (by revert c1; decide))
  refine ax_s (pc' := 42) (st' := [.int (-1)]) rfl rfl rfl rfl ?_
  refine ax_if_ge rfl (fun c2 => False.elim (by revert c2; decide)) (fun c2 => ?_)
  refine ax_s (pc' := 46) (st' := [.int 0]) rfl rfl rfl rfl ?_
  refine ax_rb (b := false) rfl rfl ?_
  exact k1
theorem wl_nr1 {d : Nat} {X : Nat × (Nat → Int32)} {S : Nat → Nat → Int32} {L : Nat → Int64} {l k : Nat} {y3 y4 y5 : Option Value} {Q : Option Value → am_H → Prop}  (x1 : ¬ (nI k) < 0 → k < 6) (x2 : ¬ (nI k) < 0 → (k + 1) < 6) (k1 : (nI k) < 0 → 0 ≤ (nI k) → am_ex (d + 2) 94 49 [some (.ref 277), some (.int (nI l)), some (.int (nI k)), some (.int (nI l)), y4, y5] [] (am_hh X S L) Q) (k2 : (nI k) < 0 → ¬ 0 ≤ (nI k) → Q (some (.int 0)) (am_hh X S L)) (k3 : ¬ (nI k) < 0 → (S 278 k) ≤ (S 278 (k + 1)) → 0 ≤ (nI k) → am_ex (d + 2) 94 49 [some (.ref 277), some (.int (nI l)), some (.int (nI k)), some (.int (nI l)), y4, y5] [] (am_hh X S L) Q) (k4 : ¬ (nI k) < 0 → (S 278 k) ≤ (S 278 (k + 1)) → ¬ 0 ≤ (nI k) → Q (some (.int 0)) (am_hh X S L)) (k5 : ¬ (nI k) < 0 → ¬ (S 278 k) ≤ (S 278 (k + 1)) → am_ex (d + 2) 94 14 [some (.ref 277), some (.int (nI l)), some (.int ((nI k) + (-1))), y3, y4, y5] [] (am_hh X S L) Q) : am_ex (d + 2) 94 14 [some (.ref 277), some (.int (nI l)), some (.int (nI k)), y3, y4, y5] [] (am_hh X S L) Q := by
  refine ax_s (pc' := 15) (st' := [.int (nI k)]) rfl rfl rfl rfl ?_
  refine ax_if_lt rfl (fun c1 => ?_) (fun c1 => ?_)
  · refine ax_s (pc' := 42) (st' := [.int (nI k)]) rfl rfl rfl rfl ?_
    refine ax_if_ge rfl (fun c2 => ?_) (fun c2 => ?_)
    · refine ax_s (pc' := 48) (st' := [.int (nI l)]) rfl rfl rfl rfl ?_
      refine ax_s (pc' := 49) (ls' := [some (.ref 277), some (.int (nI l)), some (.int (nI k)), some (.int (nI l)), y4, y5]) (st' := []) rfl rfl rfl rfl ?_
      exact k1 c1 c2
    · refine ax_s (pc' := 46) (st' := [.int 0]) rfl rfl rfl rfl ?_
      refine ax_rb (b := false) rfl rfl ?_
      exact k2 c1 c2
  · refine ax_s (pc' := 19) (st' := [.ref 277]) rfl rfl rfl rfl ?_
    refine ax_get rfl (hh_277 _ _ _) rfl rfl rfl ?_
    show am_ex (d + 2) 94 22 [some (.ref 277), some (.int (nI l)), some (.int (nI k)), y3, y4, y5] [.ref 278] (am_hh X S L) _
    refine ax_s (pc' := 23) (st' := [.int (nI k), .ref 278]) rfl rfl rfl rfl ?_
    refine ax_ald (j := k) (v := (S 278 k)) rfl (hh_278 _ _ _) rfl rfl (x1 c1) (by decide) rfl ?_
    refine ax_s (pc' := 25) (st' := [.ref 277, .int (S 278 k)]) rfl rfl rfl rfl ?_
    refine ax_get rfl (hh_277 _ _ _) rfl rfl rfl ?_
    show am_ex (d + 2) 94 28 [some (.ref 277), some (.int (nI l)), some (.int (nI k)), y3, y4, y5] [.ref 278, .int (S 278 k)] (am_hh X S L) _
    refine ax_s (pc' := 29) (st' := [.int (nI k), .ref 278, .int (S 278 k)]) rfl rfl rfl rfl ?_
    refine ax_s (pc' := 30) (st' := [.int 1, .int (nI k), .ref 278, .int (S 278 k)]) rfl rfl rfl rfl ?_
    refine ax_s (pc' := 31) (st' := [.int ((nI k) + 1), .ref 278, .int (S 278 k)]) rfl rfl rfl rfl ?_
    refine ax_ald (j := (k + 1)) (v := (S 278 (k + 1))) rfl (hh_278 _ _ _) rfl (am_na (x := k) (y := 1) rfl rfl) (x2 c1) (by decide) rfl ?_
    refine ax_cmp_le rfl (fun c3 => ?_) (fun c3 => ?_)
    · refine ax_s (pc' := 42) (st' := [.int (nI k)]) rfl rfl rfl rfl ?_
      refine ax_if_ge rfl (fun c4 => ?_) (fun c4 => ?_)
      · refine ax_s (pc' := 48) (st' := [.int (nI l)]) rfl rfl rfl rfl ?_
        refine ax_s (pc' := 49) (ls' := [some (.ref 277), some (.int (nI l)), some (.int (nI k)), some (.int (nI l)), y4, y5]) (st' := []) rfl rfl rfl rfl ?_
        exact k3 c1 c3 c4
      · refine ax_s (pc' := 46) (st' := [.int 0]) rfl rfl rfl rfl ?_
        refine ax_rb (b := false) rfl rfl ?_
        exact k4 c1 c3 c4
    · refine ax_s (pc' := 38) (ls' := [some (.ref 277), some (.int (nI l)), some (.int ((nI k) + (-1))), y3, y4, y5]) (st' := []) rfl rfl rfl rfl ?_
      refine ax_s (pc' := 14) (st' := []) rfl rfl rfl rfl ?_
      exact k5 c1 c3
theorem wl_nr2 {d : Nat} {X : Nat × (Nat → Int32)} {S : Nat → Nat → Int32} {L : Nat → Int64} {l k j : Nat} {y4 y5 : Option Value} {Q : Option Value → am_H → Prop}  (x1 : (nI j) ≤ (nI k) → k < 6) (x2 : (nI j) ≤ (nI k) → j < 6) (x3 : ¬ (nI j) ≤ (nI k) → j < 6) (x4 : ¬ (nI j) ≤ (nI k) → k < 6) (k1 : (nI j) ≤ (nI k) → am_ex (d + 2) 94 89 [some (.ref 277), some (.int (nI l)), some (.int (nI k)), some (.int (nI j)), some (.int ((nI k) + 1)), some (.int (nI l))] [] (am_hh X (am_u (am_u S 278 k (S 278 j)) 278 j (S 278 k)) L) Q) (k2 : ¬ (nI j) ≤ (nI k) → (S 278 k) ≤ (S 278 j) → am_ex (d + 2) 94 89 [some (.ref 277), some (.int (nI l)), some (.int (nI k)), some (.int (nI j)), some (.int ((nI k) + 1)), some (.int (nI l))] [] (am_hh X (am_u (am_u S 278 k (S 278 j)) 278 j (S 278 k)) L) Q) (k3 : ¬ (nI j) ≤ (nI k) → ¬ (S 278 k) ≤ (S 278 j) → am_ex (d + 2) 94 49 [some (.ref 277), some (.int (nI l)), some (.int (nI k)), some (.int ((nI j) + (-1))), y4, y5] [] (am_hh X S L) Q) : am_ex (d + 2) 94 49 [some (.ref 277), some (.int (nI l)), some (.int (nI k)), some (.int (nI j)), y4, y5] [] (am_hh X S L) Q := by
  refine ax_s (pc' := 50) (st' := [.int (nI j)]) rfl rfl rfl rfl ?_
  refine ax_s (pc' := 51) (st' := [.int (nI k), .int (nI j)]) rfl rfl rfl rfl ?_
  refine ax_cmp_le rfl (fun c1 => ?_) (fun c1 => ?_)
  · refine ax_s (pc' := 76) (st' := [.ref 277]) rfl rfl rfl rfl ?_
    refine ax_s (pc' := 77) (st' := [.int (nI k), .ref 277]) rfl rfl rfl rfl ?_
    refine ax_s (pc' := 78) (st' := [.int (nI j), .int (nI k), .ref 277]) rfl rfl rfl rfl ?_
    refine ax_call (vs := [.ref 277, .int (nI k), .int (nI j)]) (rr := []) rfl rfl rfl ?_
    refine ax_in (ls := [some (.ref 277), some (.int (nI k)), some (.int (nI j)), none]) rfl ?_
    refine ax_s (pc' := 1) (st' := [.ref 277]) rfl rfl rfl rfl ?_
    refine ax_get rfl (hh_277 _ _ _) rfl rfl rfl ?_
    show am_ex (d + 1) 95 4 [some (.ref 277), some (.int (nI k)), some (.int (nI j)), none] [.ref 278] (am_hh X S L) _
    refine ax_s (pc' := 5) (st' := [.int (nI k), .ref 278]) rfl rfl rfl rfl ?_
    refine ax_ald (j := k) (v := (S 278 k)) rfl (hh_278 _ _ _) rfl rfl (x1 c1) (by decide) rfl ?_
    refine ax_s (pc' := 7) (ls' := [some (.ref 277), some (.int (nI k)), some (.int (nI j)), some (.int (S 278 k))]) (st' := []) rfl rfl rfl rfl ?_
    refine ax_s (pc' := 8) (st' := [.ref 277]) rfl rfl rfl rfl ?_
    refine ax_get rfl (hh_277 _ _ _) rfl rfl rfl ?_
    show am_ex (d + 1) 95 11 [some (.ref 277), some (.int (nI k)), some (.int (nI j)), some (.int (S 278 k))] [.ref 278] (am_hh X S L) _
    refine ax_s (pc' := 12) (st' := [.int (nI k), .ref 278]) rfl rfl rfl rfl ?_
    refine ax_s (pc' := 13) (st' := [.ref 277, .int (nI k), .ref 278]) rfl rfl rfl rfl ?_
    refine ax_get rfl (hh_277 _ _ _) rfl rfl rfl ?_
    show am_ex (d + 1) 95 16 [some (.ref 277), some (.int (nI k)), some (.int (nI j)), some (.int (S 278 k))] [.ref 278, .int (nI k), .ref 278] (am_hh X S L) _
    refine ax_s (pc' := 17) (st' := [.int (nI j), .ref 278, .int (nI k), .ref 278]) rfl rfl rfl rfl ?_
    refine ax_ald (j := j) (v := (S 278 j)) rfl (hh_278 _ _ _) rfl rfl (x2 c1) (by decide) rfl ?_
    refine ax_ast (j := k) rfl (hh_278 _ _ _) rfl rfl (x1 c1) (by decide) (am_hh_set _ _ _ 278 k _ rfl) ?_
    refine ax_s (pc' := 20) (st' := [.ref 277]) rfl rfl rfl rfl ?_
    refine ax_get rfl (hh_277 _ _ _) rfl rfl rfl ?_
    show am_ex (d + 1) 95 23 [some (.ref 277), some (.int (nI k)), some (.int (nI j)), some (.int (S 278 k))] [.ref 278] (am_hh X (am_u S 278 k (S 278 j)) L) _
    refine ax_s (pc' := 24) (st' := [.int (nI j), .ref 278]) rfl rfl rfl rfl ?_
    refine ax_s (pc' := 25) (st' := [.int (S 278 k), .int (nI j), .ref 278]) rfl rfl rfl rfl ?_
    refine ax_ast (j := j) rfl (hh_278 _ _ _) rfl rfl (x2 c1) (by decide) (am_hh_set _ _ _ 278 j _ rfl) ?_
    refine ax_r rfl rfl rfl ?_
    show am_ex (d + 2) 94 81 [some (.ref 277), some (.int (nI l)), some (.int (nI k)), some (.int (nI j)), y4, y5] [] (am_hh X (am_u (am_u S 278 k (S 278 j)) 278 j (S 278 k)) L) _
    refine ax_s (pc' := 82) (st' := [.int (nI k)]) rfl rfl rfl rfl ?_
    refine ax_s (pc' := 83) (st' := [.int 1, .int (nI k)]) rfl rfl rfl rfl ?_
    refine ax_s (pc' := 84) (st' := [.int ((nI k) + 1)]) rfl rfl rfl rfl ?_
    refine ax_s (pc' := 86) (ls' := [some (.ref 277), some (.int (nI l)), some (.int (nI k)), some (.int (nI j)), some (.int ((nI k) + 1)), y5]) (st' := []) rfl rfl rfl rfl ?_
    refine ax_s (pc' := 87) (st' := [.int (nI l)]) rfl rfl rfl rfl ?_
    refine ax_s (pc' := 89) (ls' := [some (.ref 277), some (.int (nI l)), some (.int (nI k)), some (.int (nI j)), some (.int ((nI k) + 1)), some (.int (nI l))]) (st' := []) rfl rfl rfl rfl ?_
    exact k1 c1
  · refine ax_s (pc' := 55) (st' := [.ref 277]) rfl rfl rfl rfl ?_
    refine ax_get rfl (hh_277 _ _ _) rfl rfl rfl ?_
    show am_ex (d + 2) 94 58 [some (.ref 277), some (.int (nI l)), some (.int (nI k)), some (.int (nI j)), y4, y5] [.ref 278] (am_hh X S L) _
    refine ax_s (pc' := 59) (st' := [.int (nI j), .ref 278]) rfl rfl rfl rfl ?_
    refine ax_ald (j := j) (v := (S 278 j)) rfl (hh_278 _ _ _) rfl rfl (x3 c1) (by decide) rfl ?_
    refine ax_s (pc' := 61) (st' := [.ref 277, .int (S 278 j)]) rfl rfl rfl rfl ?_
    refine ax_get rfl (hh_277 _ _ _) rfl rfl rfl ?_
    show am_ex (d + 2) 94 64 [some (.ref 277), some (.int (nI l)), some (.int (nI k)), some (.int (nI j)), y4, y5] [.ref 278, .int (S 278 j)] (am_hh X S L) _
    refine ax_s (pc' := 65) (st' := [.int (nI k), .ref 278, .int (S 278 j)]) rfl rfl rfl rfl ?_
    refine ax_ald (j := k) (v := (S 278 k)) rfl (hh_278 _ _ _) rfl rfl (x4 c1) (by decide) rfl ?_
    refine ax_cmp_ge rfl (fun c2 => ?_) (fun c2 => ?_)
    · refine ax_s (pc' := 76) (st' := [.ref 277]) rfl rfl rfl rfl ?_
      refine ax_s (pc' := 77) (st' := [.int (nI k), .ref 277]) rfl rfl rfl rfl ?_
      refine ax_s (pc' := 78) (st' := [.int (nI j), .int (nI k), .ref 277]) rfl rfl rfl rfl ?_
      refine ax_call (vs := [.ref 277, .int (nI k), .int (nI j)]) (rr := []) rfl rfl rfl ?_
      refine ax_in (ls := [some (.ref 277), some (.int (nI k)), some (.int (nI j)), none]) rfl ?_
      refine ax_s (pc' := 1) (st' := [.ref 277]) rfl rfl rfl rfl ?_
      refine ax_get rfl (hh_277 _ _ _) rfl rfl rfl ?_
      show am_ex (d + 1) 95 4 [some (.ref 277), some (.int (nI k)), some (.int (nI j)), none] [.ref 278] (am_hh X S L) _
      refine ax_s (pc' := 5) (st' := [.int (nI k), .ref 278]) rfl rfl rfl rfl ?_
      refine ax_ald (j := k) (v := (S 278 k)) rfl (hh_278 _ _ _) rfl rfl (x4 c1) (by decide) rfl ?_
      refine ax_s (pc' := 7) (ls' := [some (.ref 277), some (.int (nI k)), some (.int (nI j)), some (.int (S 278 k))]) (st' := []) rfl rfl rfl rfl ?_
      refine ax_s (pc' := 8) (st' := [.ref 277]) rfl rfl rfl rfl ?_
      refine ax_get rfl (hh_277 _ _ _) rfl rfl rfl ?_
      show am_ex (d + 1) 95 11 [some (.ref 277), some (.int (nI k)), some (.int (nI j)), some (.int (S 278 k))] [.ref 278] (am_hh X S L) _
      refine ax_s (pc' := 12) (st' := [.int (nI k), .ref 278]) rfl rfl rfl rfl ?_
      refine ax_s (pc' := 13) (st' := [.ref 277, .int (nI k), .ref 278]) rfl rfl rfl rfl ?_
      refine ax_get rfl (hh_277 _ _ _) rfl rfl rfl ?_
      show am_ex (d + 1) 95 16 [some (.ref 277), some (.int (nI k)), some (.int (nI j)), some (.int (S 278 k))] [.ref 278, .int (nI k), .ref 278] (am_hh X S L) _
      refine ax_s (pc' := 17) (st' := [.int (nI j), .ref 278, .int (nI k), .ref 278]) rfl rfl rfl rfl ?_
      refine ax_ald (j := j) (v := (S 278 j)) rfl (hh_278 _ _ _) rfl rfl (x3 c1) (by decide) rfl ?_
      refine ax_ast (j := k) rfl (hh_278 _ _ _) rfl rfl (x4 c1) (by decide) (am_hh_set _ _ _ 278 k _ rfl) ?_
      refine ax_s (pc' := 20) (st' := [.ref 277]) rfl rfl rfl rfl ?_
      refine ax_get rfl (hh_277 _ _ _) rfl rfl rfl ?_
      show am_ex (d + 1) 95 23 [some (.ref 277), some (.int (nI k)), some (.int (nI j)), some (.int (S 278 k))] [.ref 278] (am_hh X (am_u S 278 k (S 278 j)) L) _
      refine ax_s (pc' := 24) (st' := [.int (nI j), .ref 278]) rfl rfl rfl rfl ?_
      refine ax_s (pc' := 25) (st' := [.int (S 278 k), .int (nI j), .ref 278]) rfl rfl rfl rfl ?_
      refine ax_ast (j := j) rfl (hh_278 _ _ _) rfl rfl (x3 c1) (by decide) (am_hh_set _ _ _ 278 j _ rfl) ?_
      refine ax_r rfl rfl rfl ?_
      show am_ex (d + 2) 94 81 [some (.ref 277), some (.int (nI l)), some (.int (nI k)), some (.int (nI j)), y4, y5] [] (am_hh X (am_u (am_u S 278 k (S 278 j)) 278 j (S 278 k)) L) _
      refine ax_s (pc' := 82) (st' := [.int (nI k)]) rfl rfl rfl rfl ?_
      refine ax_s (pc' := 83) (st' := [.int 1, .int (nI k)]) rfl rfl rfl rfl ?_
      refine ax_s (pc' := 84) (st' := [.int ((nI k) + 1)]) rfl rfl rfl rfl ?_
      refine ax_s (pc' := 86) (ls' := [some (.ref 277), some (.int (nI l)), some (.int (nI k)), some (.int (nI j)), some (.int ((nI k) + 1)), y5]) (st' := []) rfl rfl rfl rfl ?_
      refine ax_s (pc' := 87) (st' := [.int (nI l)]) rfl rfl rfl rfl ?_
      refine ax_s (pc' := 89) (ls' := [some (.ref 277), some (.int (nI l)), some (.int (nI k)), some (.int (nI j)), some (.int ((nI k) + 1)), some (.int (nI l))]) (st' := []) rfl rfl rfl rfl ?_
      exact k2 c1 c2
    · refine ax_s (pc' := 72) (ls' := [some (.ref 277), some (.int (nI l)), some (.int (nI k)), some (.int ((nI j) + (-1))), y4, y5]) (st' := []) rfl rfl rfl rfl ?_
      refine ax_s (pc' := 49) (st' := []) rfl rfl rfl rfl ?_
      exact k3 c1 c2
theorem wl_nr3 {d : Nat} {X : Nat × (Nat → Int32)} {S : Nat → Nat → Int32} {L : Nat → Int64} {l k j a b : Nat} {Q : Option Value → am_H → Prop}  (x1 : ¬ (nI b) ≤ (nI a) → a < 6) (x2 : ¬ (nI b) ≤ (nI a) → b < 6) (k1 : (nI b) ≤ (nI a) → Q (some (.int 1)) (am_hh X S L)) (k2 : ¬ (nI b) ≤ (nI a) → am_ex (d + 2) 94 89 [some (.ref 277), some (.int (nI l)), some (.int (nI k)), some (.int (nI j)), some (.int (nI (a + 1))), some (.int ((nI b) + (-1)))] [] (am_hh X (am_u (am_u S 278 a (S 278 b)) 278 b (S 278 a)) L) Q) : am_ex (d + 2) 94 89 [some (.ref 277), some (.int (nI l)), some (.int (nI k)), some (.int (nI j)), some (.int (nI a)), some (.int (nI b))] [] (am_hh X S L) Q := by
  refine ax_s (pc' := 91) (st' := [.int (nI a)]) rfl rfl rfl rfl ?_
  refine ax_s (pc' := 93) (st' := [.int (nI b), .int (nI a)]) rfl rfl rfl rfl ?_
  refine ax_cmp_ge rfl (fun c1 => ?_) (fun c1 => ?_)
  · refine ax_s (pc' := 114) (st' := [.int 1]) rfl rfl rfl rfl ?_
    refine ax_rb (b := true) rfl rfl ?_
    exact k1 c1
  · refine ax_s (pc' := 97) (st' := [.ref 277]) rfl rfl rfl rfl ?_
    refine ax_s (pc' := 99) (st' := [.int (nI a), .ref 277]) rfl rfl rfl rfl ?_
    refine ax_s (pc' := 101) (st' := [.int (nI b), .int (nI a), .ref 277]) rfl rfl rfl rfl ?_
    refine ax_call (vs := [.ref 277, .int (nI a), .int (nI b)]) (rr := []) rfl rfl rfl ?_
    refine ax_in (ls := [some (.ref 277), some (.int (nI a)), some (.int (nI b)), none]) rfl ?_
    refine ax_s (pc' := 1) (st' := [.ref 277]) rfl rfl rfl rfl ?_
    refine ax_get rfl (hh_277 _ _ _) rfl rfl rfl ?_
    show am_ex (d + 1) 95 4 [some (.ref 277), some (.int (nI a)), some (.int (nI b)), none] [.ref 278] (am_hh X S L) _
    refine ax_s (pc' := 5) (st' := [.int (nI a), .ref 278]) rfl rfl rfl rfl ?_
    refine ax_ald (j := a) (v := (S 278 a)) rfl (hh_278 _ _ _) rfl rfl (x1 c1) (by decide) rfl ?_
    refine ax_s (pc' := 7) (ls' := [some (.ref 277), some (.int (nI a)), some (.int (nI b)), some (.int (S 278 a))]) (st' := []) rfl rfl rfl rfl ?_
    refine ax_s (pc' := 8) (st' := [.ref 277]) rfl rfl rfl rfl ?_
    refine ax_get rfl (hh_277 _ _ _) rfl rfl rfl ?_
    show am_ex (d + 1) 95 11 [some (.ref 277), some (.int (nI a)), some (.int (nI b)), some (.int (S 278 a))] [.ref 278] (am_hh X S L) _
    refine ax_s (pc' := 12) (st' := [.int (nI a), .ref 278]) rfl rfl rfl rfl ?_
    refine ax_s (pc' := 13) (st' := [.ref 277, .int (nI a), .ref 278]) rfl rfl rfl rfl ?_
    refine ax_get rfl (hh_277 _ _ _) rfl rfl rfl ?_
    show am_ex (d + 1) 95 16 [some (.ref 277), some (.int (nI a)), some (.int (nI b)), some (.int (S 278 a))] [.ref 278, .int (nI a), .ref 278] (am_hh X S L) _
    refine ax_s (pc' := 17) (st' := [.int (nI b), .ref 278, .int (nI a), .ref 278]) rfl rfl rfl rfl ?_
    refine ax_ald (j := b) (v := (S 278 b)) rfl (hh_278 _ _ _) rfl rfl (x2 c1) (by decide) rfl ?_
    refine ax_ast (j := a) rfl (hh_278 _ _ _) rfl rfl (x1 c1) (by decide) (am_hh_set _ _ _ 278 a _ rfl) ?_
    refine ax_s (pc' := 20) (st' := [.ref 277]) rfl rfl rfl rfl ?_
    refine ax_get rfl (hh_277 _ _ _) rfl rfl rfl ?_
    show am_ex (d + 1) 95 23 [some (.ref 277), some (.int (nI a)), some (.int (nI b)), some (.int (S 278 a))] [.ref 278] (am_hh X (am_u S 278 a (S 278 b)) L) _
    refine ax_s (pc' := 24) (st' := [.int (nI b), .ref 278]) rfl rfl rfl rfl ?_
    refine ax_s (pc' := 25) (st' := [.int (S 278 a), .int (nI b), .ref 278]) rfl rfl rfl rfl ?_
    refine ax_ast (j := b) rfl (hh_278 _ _ _) rfl rfl (x2 c1) (by decide) (am_hh_set _ _ _ 278 b _ rfl) ?_
    refine ax_r rfl rfl rfl ?_
    show am_ex (d + 2) 94 104 [some (.ref 277), some (.int (nI l)), some (.int (nI k)), some (.int (nI j)), some (.int (nI a)), some (.int (nI b))] [] (am_hh X (am_u (am_u S 278 a (S 278 b)) 278 b (S 278 a)) L) _
    refine ax_s (pc' := 107) (ls' := [some (.ref 277), some (.int (nI l)), some (.int (nI k)), some (.int (nI j)), some (.int ((nI a) + 1)), some (.int (nI b))]) (st' := []) rfl rfl rfl rfl ?_
    rw [nI_1]
    refine ax_s (pc' := 110) (ls' := [some (.ref 277), some (.int (nI l)), some (.int (nI k)), some (.int (nI j)), some (.int (nI (a + 1))), some (.int ((nI b) + (-1)))]) (st' := []) rfl rfl rfl rfl ?_
    refine ax_s (pc' := 89) (st' := []) rfl rfl rfl rfl ?_
    exact k2 c1
theorem wp_mo {d : Nat} {X : Nat × (Nat → Int32)} {S : Nat → Nat → Int32} {L : Nat → Int64} {Q : Option Value → am_H → Prop}  (k1 : am_ex (d + 2) 203 7 [some (.ref 285), some (.int ((S 285 7) - 2)), none, none, none, none] [] (am_hh X S L) Q) : am_mt (d + 2) 203 [.ref 285] (am_hh X S L) Q := by
  refine ax_in (ls := [some (.ref 285), none, none, none, none, none]) rfl ?_
  refine ax_s (pc' := 1) (st' := [.ref 285]) rfl rfl rfl rfl ?_
  refine ax_get rfl (hh_285 _ _ _) rfl rfl rfl ?_
  show am_ex (d + 2) 203 4 [some (.ref 285), none, none, none, none, none] [.int (S 285 7)] (am_hh X S L) _
  refine ax_s (pc' := 5) (st' := [.int 2, .int (S 285 7)]) rfl rfl rfl rfl ?_
  refine ax_s (pc' := 6) (st' := [.int ((S 285 7) - 2)]) rfl rfl rfl rfl ?_
  refine ax_s (pc' := 7) (ls' := [some (.ref 285), some (.int ((S 285 7) - 2)), none, none, none, none]) (st' := []) rfl rfl rfl rfl ?_
  exact k1
theorem wl_mo0 {d : Nat} {X : Nat × (Nat → Int32)} {S : Nat → Nat → Int32} {L : Nat → Int64} {y2 y3 y4 y5 : Option Value} {Q : Option Value → am_H → Prop}  (k1 : Q (some (.int 0)) (am_hh X S L)) : am_ex (d + 2) 203 7 [some (.ref 285), some (.int (-1)), y2, y3, y4, y5] [] (am_hh X S L) Q := by
  refine ax_s (pc' := 8) (st' := [.int (-1)]) rfl rfl rfl rfl ?_
  refine ax_if_lt rfl (fun c1 => ?_) (fun c1 => False.elim (by revert c1; decide))
  refine ax_s (pc' := 35) (st' := [.int (-1)]) rfl rfl rfl rfl ?_
  refine ax_if_ge rfl (fun c2 => False.elim (by revert c2; decide)) (fun c2 => ?_)
  refine ax_s (pc' := 39) (st' := [.int 0]) rfl rfl rfl rfl ?_
  refine ax_rb (b := false) rfl rfl ?_
  exact k1
theorem wl_mo1 {d : Nat} {X : Nat × (Nat → Int32)} {S : Nat → Nat → Int32} {L : Nat → Int64} {l k : Nat} {y2 y3 y4 y5 : Option Value} {Q : Option Value → am_H → Prop} (hl : S 285 7 - 1 = nI l)  (x1 : ¬ (nI k) < 0 → k < 6) (x2 : ¬ (nI k) < 0 → (k + 1) < 6) (k1 : (nI k) < 0 → 0 ≤ (nI k) → am_ex (d + 2) 203 47 [some (.ref 285), some (.int (nI k)), some (.int ((S 285 7) - 1)), y3, y4, y5] [] (am_hh X S L) Q) (k2 : (nI k) < 0 → ¬ 0 ≤ (nI k) → Q (some (.int 0)) (am_hh X S L)) (k3 : ¬ (nI k) < 0 → (S 297 k) ≤ (S 297 (k + 1)) → 0 ≤ (nI k) → am_ex (d + 2) 203 47 [some (.ref 285), some (.int (nI k)), some (.int ((S 285 7) - 1)), y3, y4, y5] [] (am_hh X S L) Q) (k4 : ¬ (nI k) < 0 → (S 297 k) ≤ (S 297 (k + 1)) → ¬ 0 ≤ (nI k) → Q (some (.int 0)) (am_hh X S L)) (k5 : ¬ (nI k) < 0 → ¬ (S 297 k) ≤ (S 297 (k + 1)) → am_ex (d + 2) 203 7 [some (.ref 285), some (.int ((nI k) + (-1))), y2, y3, y4, y5] [] (am_hh X S L) Q) : am_ex (d + 2) 203 7 [some (.ref 285), some (.int (nI k)), y2, y3, y4, y5] [] (am_hh X S L) Q := by
  refine ax_s (pc' := 8) (st' := [.int (nI k)]) rfl rfl rfl rfl ?_
  refine ax_if_lt rfl (fun c1 => ?_) (fun c1 => ?_)
  · refine ax_s (pc' := 35) (st' := [.int (nI k)]) rfl rfl rfl rfl ?_
    refine ax_if_ge rfl (fun c2 => ?_) (fun c2 => ?_)
    · refine ax_s (pc' := 41) (st' := [.ref 285]) rfl rfl rfl rfl ?_
      refine ax_get rfl (hh_285 _ _ _) rfl rfl rfl ?_
      show am_ex (d + 2) 203 44 [some (.ref 285), some (.int (nI k)), y2, y3, y4, y5] [.int (S 285 7)] (am_hh X S L) _
      refine ax_s (pc' := 45) (st' := [.int 1, .int (S 285 7)]) rfl rfl rfl rfl ?_
      refine ax_s (pc' := 46) (st' := [.int ((S 285 7) - 1)]) rfl rfl rfl rfl ?_
      refine ax_s (pc' := 47) (ls' := [some (.ref 285), some (.int (nI k)), some (.int ((S 285 7) - 1)), y3, y4, y5]) (st' := []) rfl rfl rfl rfl ?_
      exact k1 c1 c2
    · refine ax_s (pc' := 39) (st' := [.int 0]) rfl rfl rfl rfl ?_
      refine ax_rb (b := false) rfl rfl ?_
      exact k2 c1 c2
  · refine ax_s (pc' := 12) (st' := [.ref 285]) rfl rfl rfl rfl ?_
    refine ax_get rfl (hh_285 _ _ _) rfl rfl rfl ?_
    show am_ex (d + 2) 203 15 [some (.ref 285), some (.int (nI k)), y2, y3, y4, y5] [.ref 297] (am_hh X S L) _
    refine ax_s (pc' := 16) (st' := [.int (nI k), .ref 297]) rfl rfl rfl rfl ?_
    refine ax_ald (j := k) (v := (S 297 k)) rfl (hh_297 _ _ _) rfl rfl (x1 c1) (by decide) rfl ?_
    refine ax_s (pc' := 18) (st' := [.ref 285, .int (S 297 k)]) rfl rfl rfl rfl ?_
    refine ax_get rfl (hh_285 _ _ _) rfl rfl rfl ?_
    show am_ex (d + 2) 203 21 [some (.ref 285), some (.int (nI k)), y2, y3, y4, y5] [.ref 297, .int (S 297 k)] (am_hh X S L) _
    refine ax_s (pc' := 22) (st' := [.int (nI k), .ref 297, .int (S 297 k)]) rfl rfl rfl rfl ?_
    refine ax_s (pc' := 23) (st' := [.int 1, .int (nI k), .ref 297, .int (S 297 k)]) rfl rfl rfl rfl ?_
    refine ax_s (pc' := 24) (st' := [.int ((nI k) + 1), .ref 297, .int (S 297 k)]) rfl rfl rfl rfl ?_
    refine ax_ald (j := (k + 1)) (v := (S 297 (k + 1))) rfl (hh_297 _ _ _) rfl (am_na (x := k) (y := 1) rfl rfl) (x2 c1) (by decide) rfl ?_
    refine ax_cmp_le rfl (fun c3 => ?_) (fun c3 => ?_)
    · refine ax_s (pc' := 35) (st' := [.int (nI k)]) rfl rfl rfl rfl ?_
      refine ax_if_ge rfl (fun c4 => ?_) (fun c4 => ?_)
      · refine ax_s (pc' := 41) (st' := [.ref 285]) rfl rfl rfl rfl ?_
        refine ax_get rfl (hh_285 _ _ _) rfl rfl rfl ?_
        show am_ex (d + 2) 203 44 [some (.ref 285), some (.int (nI k)), y2, y3, y4, y5] [.int (S 285 7)] (am_hh X S L) _
        refine ax_s (pc' := 45) (st' := [.int 1, .int (S 285 7)]) rfl rfl rfl rfl ?_
        refine ax_s (pc' := 46) (st' := [.int ((S 285 7) - 1)]) rfl rfl rfl rfl ?_
        refine ax_s (pc' := 47) (ls' := [some (.ref 285), some (.int (nI k)), some (.int ((S 285 7) - 1)), y3, y4, y5]) (st' := []) rfl rfl rfl rfl ?_
        exact k3 c1 c3 c4
      · refine ax_s (pc' := 39) (st' := [.int 0]) rfl rfl rfl rfl ?_
        refine ax_rb (b := false) rfl rfl ?_
        exact k4 c1 c3 c4
    · refine ax_s (pc' := 31) (ls' := [some (.ref 285), some (.int ((nI k) + (-1))), y2, y3, y4, y5]) (st' := []) rfl rfl rfl rfl ?_
      refine ax_s (pc' := 7) (st' := []) rfl rfl rfl rfl ?_
      exact k5 c1 c3
theorem wl_mo2 {d : Nat} {X : Nat × (Nat → Int32)} {S : Nat → Nat → Int32} {L : Nat → Int64} {l k j : Nat} {y3 y4 y5 : Option Value} {Q : Option Value → am_H → Prop} (hl : S 285 7 - 1 = nI l)  (x1 : j < 6) (x2 : k < 6) (k1 : (S 297 k) ≤ (S 297 j) → am_ex (d + 2) 203 107 [some (.ref 285), some (.int (nI k)), some (.int (nI j)), some (.int (S 297 k)), some (.int ((nI k) + 1)), some (.int ((S 285 7) - 1))] [] (am_hh X (am_u (am_u S 297 k (S 297 j)) 297 j (S 297 k)) L) Q) (k2 : ¬ (S 297 k) ≤ (S 297 j) → am_ex (d + 2) 203 47 [some (.ref 285), some (.int (nI k)), some (.int ((nI j) + (-1))), y3, y4, y5] [] (am_hh X S L) Q) : am_ex (d + 2) 203 47 [some (.ref 285), some (.int (nI k)), some (.int (nI j)), y3, y4, y5] [] (am_hh X S L) Q := by
  refine ax_s (pc' := 48) (st' := [.ref 285]) rfl rfl rfl rfl ?_
  refine ax_get rfl (hh_285 _ _ _) rfl rfl rfl ?_
  show am_ex (d + 2) 203 51 [some (.ref 285), some (.int (nI k)), some (.int (nI j)), y3, y4, y5] [.ref 297] (am_hh X S L) _
  refine ax_s (pc' := 52) (st' := [.int (nI j), .ref 297]) rfl rfl rfl rfl ?_
  refine ax_ald (j := j) (v := (S 297 j)) rfl (hh_297 _ _ _) rfl rfl x1 (by decide) rfl ?_
  refine ax_s (pc' := 54) (st' := [.ref 285, .int (S 297 j)]) rfl rfl rfl rfl ?_
  refine ax_get rfl (hh_285 _ _ _) rfl rfl rfl ?_
  show am_ex (d + 2) 203 57 [some (.ref 285), some (.int (nI k)), some (.int (nI j)), y3, y4, y5] [.ref 297, .int (S 297 j)] (am_hh X S L) _
  refine ax_s (pc' := 58) (st' := [.int (nI k), .ref 297, .int (S 297 j)]) rfl rfl rfl rfl ?_
  refine ax_ald (j := k) (v := (S 297 k)) rfl (hh_297 _ _ _) rfl rfl x2 (by decide) rfl ?_
  refine ax_cmp_ge rfl (fun c1 => ?_) (fun c1 => ?_)
  · refine ax_s (pc' := 69) (st' := [.ref 285]) rfl rfl rfl rfl ?_
    refine ax_get rfl (hh_285 _ _ _) rfl rfl rfl ?_
    show am_ex (d + 2) 203 72 [some (.ref 285), some (.int (nI k)), some (.int (nI j)), y3, y4, y5] [.ref 297] (am_hh X S L) _
    refine ax_s (pc' := 73) (st' := [.int (nI k), .ref 297]) rfl rfl rfl rfl ?_
    refine ax_ald (j := k) (v := (S 297 k)) rfl (hh_297 _ _ _) rfl rfl x2 (by decide) rfl ?_
    refine ax_s (pc' := 75) (ls' := [some (.ref 285), some (.int (nI k)), some (.int (nI j)), some (.int (S 297 k)), y4, y5]) (st' := []) rfl rfl rfl rfl ?_
    refine ax_s (pc' := 76) (st' := [.ref 285]) rfl rfl rfl rfl ?_
    refine ax_get rfl (hh_285 _ _ _) rfl rfl rfl ?_
    show am_ex (d + 2) 203 79 [some (.ref 285), some (.int (nI k)), some (.int (nI j)), some (.int (S 297 k)), y4, y5] [.ref 297] (am_hh X S L) _
    refine ax_s (pc' := 80) (st' := [.int (nI k), .ref 297]) rfl rfl rfl rfl ?_
    refine ax_s (pc' := 81) (st' := [.ref 285, .int (nI k), .ref 297]) rfl rfl rfl rfl ?_
    refine ax_get rfl (hh_285 _ _ _) rfl rfl rfl ?_
    show am_ex (d + 2) 203 84 [some (.ref 285), some (.int (nI k)), some (.int (nI j)), some (.int (S 297 k)), y4, y5] [.ref 297, .int (nI k), .ref 297] (am_hh X S L) _
    refine ax_s (pc' := 85) (st' := [.int (nI j), .ref 297, .int (nI k), .ref 297]) rfl rfl rfl rfl ?_
    refine ax_ald (j := j) (v := (S 297 j)) rfl (hh_297 _ _ _) rfl rfl x1 (by decide) rfl ?_
    refine ax_ast (j := k) rfl (hh_297 _ _ _) rfl rfl x2 (by decide) (am_hh_set _ _ _ 297 k _ rfl) ?_
    refine ax_s (pc' := 88) (st' := [.ref 285]) rfl rfl rfl rfl ?_
    refine ax_get rfl (hh_285 _ _ _) rfl rfl rfl ?_
    show am_ex (d + 2) 203 91 [some (.ref 285), some (.int (nI k)), some (.int (nI j)), some (.int (S 297 k)), y4, y5] [.ref 297] (am_hh X (am_u S 297 k (S 297 j)) L) _
    refine ax_s (pc' := 92) (st' := [.int (nI j), .ref 297]) rfl rfl rfl rfl ?_
    refine ax_s (pc' := 93) (st' := [.int (S 297 k), .int (nI j), .ref 297]) rfl rfl rfl rfl ?_
    refine ax_ast (j := j) rfl (hh_297 _ _ _) rfl rfl x1 (by decide) (am_hh_set _ _ _ 297 j _ rfl) ?_
    refine ax_s (pc' := 95) (st' := [.int (nI k)]) rfl rfl rfl rfl ?_
    refine ax_s (pc' := 96) (st' := [.int 1, .int (nI k)]) rfl rfl rfl rfl ?_
    refine ax_s (pc' := 97) (st' := [.int ((nI k) + 1)]) rfl rfl rfl rfl ?_
    refine ax_s (pc' := 99) (ls' := [some (.ref 285), some (.int (nI k)), some (.int (nI j)), some (.int (S 297 k)), some (.int ((nI k) + 1)), y5]) (st' := []) rfl rfl rfl rfl ?_
    refine ax_s (pc' := 100) (st' := [.ref 285]) rfl rfl rfl rfl ?_
    refine ax_get rfl (hh_285 _ _ _) rfl rfl rfl ?_
    show am_ex (d + 2) 203 103 [some (.ref 285), some (.int (nI k)), some (.int (nI j)), some (.int (S 297 k)), some (.int ((nI k) + 1)), y5] [.int (S 285 7)] (am_hh X (am_u (am_u S 297 k (S 297 j)) 297 j (S 297 k)) L) _
    refine ax_s (pc' := 104) (st' := [.int 1, .int (S 285 7)]) rfl rfl rfl rfl ?_
    refine ax_s (pc' := 105) (st' := [.int ((S 285 7) - 1)]) rfl rfl rfl rfl ?_
    refine ax_s (pc' := 107) (ls' := [some (.ref 285), some (.int (nI k)), some (.int (nI j)), some (.int (S 297 k)), some (.int ((nI k) + 1)), some (.int ((S 285 7) - 1))]) (st' := []) rfl rfl rfl rfl ?_
    exact k1 c1
  · refine ax_s (pc' := 65) (ls' := [some (.ref 285), some (.int (nI k)), some (.int ((nI j) + (-1))), y3, y4, y5]) (st' := []) rfl rfl rfl rfl ?_
    refine ax_s (pc' := 47) (st' := []) rfl rfl rfl rfl ?_
    exact k2 c1
theorem wl_mo3 {d : Nat} {X : Nat × (Nat → Int32)} {S : Nat → Nat → Int32} {L : Nat → Int64} {k j a b : Nat} {y3 : Option Value} {Q : Option Value → am_H → Prop}  (x1 : ¬ (nI b) ≤ (nI a) → a < 6) (x2 : ¬ (nI b) ≤ (nI a) → b < 6) (k1 : (nI b) ≤ (nI a) → Q (some (.int 1)) (am_hh X S L)) (k2 : ¬ (nI b) ≤ (nI a) → am_ex (d + 2) 203 107 [some (.ref 285), some (.int (nI k)), some (.int (nI j)), some (.int (S 297 a)), some (.int (nI (a + 1))), some (.int ((nI b) + (-1)))] [] (am_hh X (am_u (am_u S 297 a (S 297 b)) 297 b (S 297 a)) L) Q) : am_ex (d + 2) 203 107 [some (.ref 285), some (.int (nI k)), some (.int (nI j)), y3, some (.int (nI a)), some (.int (nI b))] [] (am_hh X S L) Q := by
  refine ax_s (pc' := 109) (st' := [.int (nI a)]) rfl rfl rfl rfl ?_
  refine ax_s (pc' := 111) (st' := [.int (nI b), .int (nI a)]) rfl rfl rfl rfl ?_
  refine ax_cmp_ge rfl (fun c1 => ?_) (fun c1 => ?_)
  · refine ax_s (pc' := 154) (st' := [.int 1]) rfl rfl rfl rfl ?_
    refine ax_rb (b := true) rfl rfl ?_
    exact k1 c1
  · refine ax_s (pc' := 115) (st' := [.ref 285]) rfl rfl rfl rfl ?_
    refine ax_get rfl (hh_285 _ _ _) rfl rfl rfl ?_
    show am_ex (d + 2) 203 118 [some (.ref 285), some (.int (nI k)), some (.int (nI j)), y3, some (.int (nI a)), some (.int (nI b))] [.ref 297] (am_hh X S L) _
    refine ax_s (pc' := 120) (st' := [.int (nI a), .ref 297]) rfl rfl rfl rfl ?_
    refine ax_ald (j := a) (v := (S 297 a)) rfl (hh_297 _ _ _) rfl rfl (x1 c1) (by decide) rfl ?_
    refine ax_s (pc' := 122) (ls' := [some (.ref 285), some (.int (nI k)), some (.int (nI j)), some (.int (S 297 a)), some (.int (nI a)), some (.int (nI b))]) (st' := []) rfl rfl rfl rfl ?_
    refine ax_s (pc' := 123) (st' := [.ref 285]) rfl rfl rfl rfl ?_
    refine ax_get rfl (hh_285 _ _ _) rfl rfl rfl ?_
    show am_ex (d + 2) 203 126 [some (.ref 285), some (.int (nI k)), some (.int (nI j)), some (.int (S 297 a)), some (.int (nI a)), some (.int (nI b))] [.ref 297] (am_hh X S L) _
    refine ax_s (pc' := 128) (st' := [.int (nI a), .ref 297]) rfl rfl rfl rfl ?_
    refine ax_s (pc' := 129) (st' := [.ref 285, .int (nI a), .ref 297]) rfl rfl rfl rfl ?_
    refine ax_get rfl (hh_285 _ _ _) rfl rfl rfl ?_
    show am_ex (d + 2) 203 132 [some (.ref 285), some (.int (nI k)), some (.int (nI j)), some (.int (S 297 a)), some (.int (nI a)), some (.int (nI b))] [.ref 297, .int (nI a), .ref 297] (am_hh X S L) _
    refine ax_s (pc' := 134) (st' := [.int (nI b), .ref 297, .int (nI a), .ref 297]) rfl rfl rfl rfl ?_
    refine ax_ald (j := b) (v := (S 297 b)) rfl (hh_297 _ _ _) rfl rfl (x2 c1) (by decide) rfl ?_
    refine ax_ast (j := a) rfl (hh_297 _ _ _) rfl rfl (x1 c1) (by decide) (am_hh_set _ _ _ 297 a _ rfl) ?_
    refine ax_s (pc' := 137) (st' := [.ref 285]) rfl rfl rfl rfl ?_
    refine ax_get rfl (hh_285 _ _ _) rfl rfl rfl ?_
    show am_ex (d + 2) 203 140 [some (.ref 285), some (.int (nI k)), some (.int (nI j)), some (.int (S 297 a)), some (.int (nI a)), some (.int (nI b))] [.ref 297] (am_hh X (am_u S 297 a (S 297 b)) L) _
    refine ax_s (pc' := 142) (st' := [.int (nI b), .ref 297]) rfl rfl rfl rfl ?_
    refine ax_s (pc' := 143) (st' := [.int (S 297 a), .int (nI b), .ref 297]) rfl rfl rfl rfl ?_
    refine ax_ast (j := b) rfl (hh_297 _ _ _) rfl rfl (x2 c1) (by decide) (am_hh_set _ _ _ 297 b _ rfl) ?_
    refine ax_s (pc' := 147) (ls' := [some (.ref 285), some (.int (nI k)), some (.int (nI j)), some (.int (S 297 a)), some (.int ((nI a) + 1)), some (.int (nI b))]) (st' := []) rfl rfl rfl rfl ?_
    rw [nI_1]
    refine ax_s (pc' := 150) (ls' := [some (.ref 285), some (.int (nI k)), some (.int (nI j)), some (.int (S 297 a)), some (.int (nI (a + 1))), some (.int ((nI b) + (-1)))]) (st' := []) rfl rfl rfl rfl ?_
    refine ax_s (pc' := 107) (st' := []) rfl rfl rfl rfl ?_
    exact k2 c1
theorem wl_fst {d : Nat} {X : Nat × (Nat → Int32)} {S : Nat → Nat → Int32} {L : Nat → Int64} {i a b : Nat} {y2 y3 : Option Value} {Q : Option Value → am_H → Prop} (h1 : ¬ (S 20 4) ≤ ((nI i) + 1) → S 278 i = nI a) (h2 : ¬ (S 20 4) ≤ ((nI i) + 1) → S 278 (i + 1) = nI b)  (x1 : ¬ (S 20 4) ≤ ((nI i) + 1) → i < 6) (x2 : ¬ (S 20 4) ≤ ((nI i) + 1) → (i + 1) < 6) (x3 : ¬ (S 20 4) ≤ ((nI i) + 1) → ¬ (S 278 i) ≤ (S 278 (i + 1)) → a < 6) (x4 : ¬ (S 20 4) ≤ ((nI i) + 1) → ¬ (S 278 i) ≤ (S 278 (i + 1)) → (S 25 a) = 0 → b < 6) (k1 : (S 20 4) ≤ ((nI i) + 1) → Q (some (.int 1)) (am_hh X S L)) (k2 : ¬ (S 20 4) ≤ ((nI i) + 1) → (S 278 i) ≤ (S 278 (i + 1)) → am_ex (d + 2) 90 2 [some (.ref 277), some (.int (nI (i + 1))), some (.int (S 278 i)), some (.int (S 278 (i + 1)))] [] (am_hh X S L) Q) (k3 : ¬ (S 20 4) ≤ ((nI i) + 1) → ¬ (S 278 i) ≤ (S 278 (i + 1)) → ¬ (S 25 a) = 0 → Q (some (.int 0)) (am_hh X S L)) (k4 : ¬ (S 20 4) ≤ ((nI i) + 1) → ¬ (S 278 i) ≤ (S 278 (i + 1)) → (S 25 a) = 0 → (S 25 b) = 0 → am_ex (d + 2) 90 2 [some (.ref 277), some (.int (nI (i + 1))), some (.int (S 278 i)), some (.int (S 278 (i + 1)))] [] (am_hh X S L) Q) (k5 : ¬ (S 20 4) ≤ ((nI i) + 1) → ¬ (S 278 i) ≤ (S 278 (i + 1)) → (S 25 a) = 0 → ¬ (S 25 b) = 0 → Q (some (.int 0)) (am_hh X S L)) : am_ex (d + 2) 90 2 [some (.ref 277), some (.int (nI i)), y2, y3] [] (am_hh X S L) Q := by
  refine ax_s (pc' := 3) (st' := [.int (nI i)]) rfl rfl rfl rfl ?_
  refine ax_s (pc' := 4) (st' := [.int 1, .int (nI i)]) rfl rfl rfl rfl ?_
  refine ax_s (pc' := 5) (st' := [.int ((nI i) + 1)]) rfl rfl rfl rfl ?_
  refine ax_s (pc' := 6) (st' := [.ref 277, .int ((nI i) + 1)]) rfl rfl rfl rfl ?_
  refine ax_get rfl (hh_277 _ _ _) rfl rfl rfl ?_
  show am_ex (d + 2) 90 9 [some (.ref 277), some (.int (nI i)), y2, y3] [.ref 20, .int ((nI i) + 1)] (am_hh X S L) _
  refine ax_get rfl (hh_20 _ _ _) rfl rfl rfl ?_
  show am_ex (d + 2) 90 12 [some (.ref 277), some (.int (nI i)), y2, y3] [.int (S 20 4), .int ((nI i) + 1)] (am_hh X S L) _
  refine ax_cmp_ge rfl (fun c1 => ?_) (fun c1 => ?_)
  · refine ax_s (pc' := 69) (st' := [.int 1]) rfl rfl rfl rfl ?_
    refine ax_rb (b := true) rfl rfl ?_
    exact k1 c1
  · refine ax_s (pc' := 16) (st' := [.ref 277]) rfl rfl rfl rfl ?_
    refine ax_get rfl (hh_277 _ _ _) rfl rfl rfl ?_
    show am_ex (d + 2) 90 19 [some (.ref 277), some (.int (nI i)), y2, y3] [.ref 278] (am_hh X S L) _
    refine ax_s (pc' := 20) (st' := [.int (nI i), .ref 278]) rfl rfl rfl rfl ?_
    refine ax_ald (j := i) (v := (S 278 i)) rfl (hh_278 _ _ _) rfl rfl (x1 c1) (by decide) rfl ?_
    refine ax_s (pc' := 22) (ls' := [some (.ref 277), some (.int (nI i)), some (.int (S 278 i)), y3]) (st' := []) rfl rfl rfl rfl ?_
    refine ax_s (pc' := 23) (st' := [.ref 277]) rfl rfl rfl rfl ?_
    refine ax_get rfl (hh_277 _ _ _) rfl rfl rfl ?_
    show am_ex (d + 2) 90 26 [some (.ref 277), some (.int (nI i)), some (.int (S 278 i)), y3] [.ref 278] (am_hh X S L) _
    refine ax_s (pc' := 27) (st' := [.int (nI i), .ref 278]) rfl rfl rfl rfl ?_
    refine ax_s (pc' := 28) (st' := [.int 1, .int (nI i), .ref 278]) rfl rfl rfl rfl ?_
    refine ax_s (pc' := 29) (st' := [.int ((nI i) + 1), .ref 278]) rfl rfl rfl rfl ?_
    refine ax_ald (j := (i + 1)) (v := (S 278 (i + 1))) rfl (hh_278 _ _ _) rfl (am_na (x := i) (y := 1) rfl rfl) (x2 c1) (by decide) rfl ?_
    refine ax_s (pc' := 31) (ls' := [some (.ref 277), some (.int (nI i)), some (.int (S 278 i)), some (.int (S 278 (i + 1)))]) (st' := []) rfl rfl rfl rfl ?_
    refine ax_s (pc' := 32) (st' := [.int (S 278 i)]) rfl rfl rfl rfl ?_
    refine ax_s (pc' := 33) (st' := [.int (S 278 (i + 1)), .int (S 278 i)]) rfl rfl rfl rfl ?_
    refine ax_cmp_le rfl (fun c2 => ?_) (fun c2 => ?_)
    · refine ax_s (pc' := 65) (ls' := [some (.ref 277), some (.int ((nI i) + 1)), some (.int (S 278 i)), some (.int (S 278 (i + 1)))]) (st' := []) rfl rfl rfl rfl ?_
      rw [nI_1]
      refine ax_s (pc' := 2) (st' := []) rfl rfl rfl rfl ?_
      exact k2 c1 c2
    · refine ax_s (pc' := 37) (st' := [.ref 277]) rfl rfl rfl rfl ?_
      refine ax_get rfl (hh_277 _ _ _) rfl rfl rfl ?_
      show am_ex (d + 2) 90 40 [some (.ref 277), some (.int (nI i)), some (.int (S 278 i)), some (.int (S 278 (i + 1)))] [.ref 20] (am_hh X S L) _
      refine ax_get rfl (hh_20 _ _ _) rfl rfl rfl ?_
      show am_ex (d + 2) 90 43 [some (.ref 277), some (.int (nI i)), some (.int (S 278 i)), some (.int (S 278 (i + 1)))] [.ref 25] (am_hh X S L) _
      refine ax_s (pc' := 44) (st' := [.int (S 278 i), .ref 25]) rfl rfl rfl rfl ?_
      refine ax_ald (j := a) (v := (S 25 a)) rfl (hh_25 _ _ _) rfl (h1 (by assumption)) (x3 c1 c2) (by decide) rfl ?_
      refine ax_if_ne rfl (fun c3 => ?_) (fun c3 => ?_)
      · refine ax_s (pc' := 61) (st' := [.int 0]) rfl rfl rfl rfl ?_
        refine ax_rb (b := false) rfl rfl ?_
        exact k3 c1 c2 c3
      · refine ax_s (pc' := 49) (st' := [.ref 277]) rfl rfl rfl rfl ?_
        refine ax_get rfl (hh_277 _ _ _) rfl rfl rfl ?_
        show am_ex (d + 2) 90 52 [some (.ref 277), some (.int (nI i)), some (.int (S 278 i)), some (.int (S 278 (i + 1)))] [.ref 20] (am_hh X S L) _
        refine ax_get rfl (hh_20 _ _ _) rfl rfl rfl ?_
        show am_ex (d + 2) 90 55 [some (.ref 277), some (.int (nI i)), some (.int (S 278 i)), some (.int (S 278 (i + 1)))] [.ref 25] (am_hh X S L) _
        refine ax_s (pc' := 56) (st' := [.int (S 278 (i + 1)), .ref 25]) rfl rfl rfl rfl ?_
        refine ax_ald (j := b) (v := (S 25 b)) rfl (hh_25 _ _ _) rfl (h2 (by assumption)) (x4 c1 c2 c3) (by decide) rfl ?_
        refine ax_if_eq rfl (fun c4 => ?_) (fun c4 => ?_)
        · refine ax_s (pc' := 65) (ls' := [some (.ref 277), some (.int ((nI i) + 1)), some (.int (S 278 i)), some (.int (S 278 (i + 1)))]) (st' := []) rfl rfl rfl rfl ?_
          rw [nI_1]
          refine ax_s (pc' := 2) (st' := []) rfl rfl rfl rfl ?_
          exact k4 c1 c2 c3 c4
        · refine ax_s (pc' := 61) (st' := [.int 0]) rfl rfl rfl rfl ?_
          refine ax_rb (b := false) rfl rfl ?_
          exact k5 c1 c2 c3 c4
theorem wp_fst {d : Nat} {X : Nat × (Nat → Int32)} {S : Nat → Nat → Int32} {L : Nat → Int64} {Q : Option Value → am_H → Prop}  (k1 : am_ex (d + 2) 90 2 [some (.ref 277), some (.int 0), none, none] [] (am_hh X S L) Q) : am_mt (d + 2) 90 [.ref 277] (am_hh X S L) Q := by
  refine ax_in (ls := [some (.ref 277), none, none, none]) rfl ?_
  refine ax_s (pc' := 1) (st' := [.int 0]) rfl rfl rfl rfl ?_
  refine ax_s (pc' := 2) (ls' := [some (.ref 277), some (.int 0), none, none]) (st' := []) rfl rfl rfl rfl ?_
  exact k1
theorem wp_try {d : Nat} {X : Nat × (Nat → Int32)} {S : Nat → Nat → Int32} {L : Nat → Int64} {m : Nat} {Q : Option Value → am_H → Prop} (hc9 : w_cl (am_sub S 29)) (hc0 : w_cl (am_sub S 20))  (k1 : am_ex (d + 5) 91 13 [some (.ref 277), some (.int (nI m)), some (.int 0), none] [] (am_hh X (am_ovl S 29 (am_sub S 20)) L) Q) : am_mt (d + 5) 91 [.ref 277, .int (nI m)] (am_hh X S L) Q := by
  refine ax_in (ls := [some (.ref 277), some (.int (nI m)), none, none]) rfl ?_
  refine ax_s (pc' := 1) (st' := [.ref 277]) rfl rfl rfl rfl ?_
  refine ax_get rfl (hh_277 _ _ _) rfl rfl rfl ?_
  show am_ex (d + 5) 91 4 [some (.ref 277), some (.int (nI m)), none, none] [.ref 29] (am_hh X S L) _
  refine ax_s (pc' := 5) (st' := [.ref 277, .ref 29]) rfl rfl rfl rfl ?_
  refine ax_get rfl (hh_277 _ _ _) rfl rfl rfl ?_
  show am_ex (d + 5) 91 8 [some (.ref 277), some (.int (nI m)), none, none] [.ref 20, .ref 29] (am_hh X S L) _
  refine ax_call (vs := [.ref 29, .ref 20]) (rr := []) rfl rfl rfl ?_
  refine kt_takeFrom isW29 isW20 (by omega) hc9 hc0 ?_
  show am_ex (d + 5) 91 11 [some (.ref 277), some (.int (nI m)), none, none] [] (am_hh X (am_ovl S 29 (am_sub S 20)) L) _
  refine ax_s (pc' := 12) (st' := [.int 0]) rfl rfl rfl rfl ?_
  refine ax_s (pc' := 13) (ls' := [some (.ref 277), some (.int (nI m)), some (.int 0), none]) (st' := []) rfl rfl rfl rfl ?_
  exact k1
theorem wl_try {d : Nat} {X : Nat × (Nat → Int32)} {S : Nat → Nat → Int32} {L : Nat → Int64} {g n m i T : Nat} {W : Nat → Nat → Int32} {y3 : Option Value} {Q : Option Value → am_H → Prop} (hw : wF W g n) (hTw : w_wh W 2 n 0 0 = nI T) (hT64 : T < 64)  (k1 : (nI m) ≤ (nI i) → (S 277 6) < (nI (pcnt T)) → Q none (am_hh X (am_uc (am_ovl (am_u (am_u S 277 6 (nI (pcnt T))) 277 4 (w_sum (W 7) n 0 0)) 29 W) 279 (va_cpy (S 278) (S 279) 0 0 6)) L)) (k2 : (nI m) ≤ (nI i) → ¬ (S 277 6) < (nI (pcnt T)) → ¬ (nI (pcnt T)) = (S 277 6) → Q none (am_hh X (am_ovl S 29 W) L)) (k3 : (nI m) ≤ (nI i) → ¬ (S 277 6) < (nI (pcnt T)) → (nI (pcnt T)) = (S 277 6) → (w_sum (W 7) n 0 0) ≤ (S 277 4) → Q none (am_hh X (am_ovl S 29 W) L)) (k4 : (nI m) ≤ (nI i) → ¬ (S 277 6) < (nI (pcnt T)) → (nI (pcnt T)) = (S 277 6) → ¬ (w_sum (W 7) n 0 0) ≤ (S 277 4) → Q none (am_hh X (am_uc (am_ovl (am_u (am_u S 277 6 (nI (pcnt T))) 277 4 (w_sum (W 7) n 0 0)) 29 W) 279 (va_cpy (S 278) (S 279) 0 0 6)) L)) (k5 : ¬ (nI m) ≤ (nI i) → am_ex (d + 5) 91 13 [some (.ref 277), some (.int (nI m)), some (.int (nI (i + 1))), y3] [] (am_hh X (am_ovl S 29 (w_ms W (S 278) g n)) L) Q) : am_ex (d + 5) 91 13 [some (.ref 277), some (.int (nI m)), some (.int (nI i)), y3] [] (am_hh X (am_ovl S 29 W) L) Q := by
  refine ax_s (pc' := 14) (st' := [.int (nI i)]) rfl rfl rfl rfl ?_
  refine ax_s (pc' := 15) (st' := [.int (nI m), .int (nI i)]) rfl rfl rfl rfl ?_
  refine ax_cmp_ge rfl (fun c1 => ?_) (fun c1 => ?_)
  · refine ax_s (pc' := 37) (st' := [.ref 277]) rfl rfl rfl rfl ?_
    refine ax_get rfl (hh_277 _ _ _) rfl rfl rfl ?_
    show am_ex (d + 5) 91 40 [some (.ref 277), some (.int (nI m)), some (.int (nI i)), y3] [.ref 29] (am_hh X (am_ovl S 29 W) L) _
    refine ax_s (pc' := 41) (st' := [.int 2, .ref 29]) rfl rfl rfl rfl ?_
    refine ax_call (vs := [.ref 29, .int 2]) (rr := []) rfl rfl rfl ?_
    refine kw (am_hh_ov isW29 X S L W).symm (am_hh_ov isW29 X S L W).symm.symm (fun _ => ct_whichAre (am_isW_k isW29 X S L) hw.1 hw.2.1) ?_
    show am_ex (d + 5) 91 44 [some (.ref 277), some (.int (nI m)), some (.int (nI i)), y3] [.int (w_wh W 2 n 0 0)] (am_hh X (am_ovl S 29 W) L) _
    refine ax_call (vs := [.int (w_wh W 2 n 0 0)]) (rr := []) rfl rfl rfl ?_
    refine kt_bitCount hTw hT64 ?_
    show am_ex (d + 5) 91 47 [some (.ref 277), some (.int (nI m)), some (.int (nI i)), y3] [.int (nI (pcnt T))] (am_hh X (am_ovl S 29 W) L) _
    refine ax_s (pc' := 48) (ls' := [some (.ref 277), some (.int (nI m)), some (.int (nI (pcnt T))), y3]) (st' := []) rfl rfl rfl rfl ?_
    refine ax_s (pc' := 49) (st' := [.ref 277]) rfl rfl rfl rfl ?_
    refine ax_get rfl (hh_277 _ _ _) rfl rfl rfl ?_
    show am_ex (d + 5) 91 52 [some (.ref 277), some (.int (nI m)), some (.int (nI (pcnt T))), y3] [.ref 29] (am_hh X (am_ovl S 29 W) L) _
    refine ax_call (vs := [.ref 29]) (rr := []) rfl rfl rfl ?_
    refine kw (am_hh_ov isW29 X S L W).symm (am_hh_ov isW29 X S L W).symm.symm (fun _ => ct_riddenOfAll (am_isW_k isW29 X S L) hw.1 hw.2.1) ?_
    show am_ex (d + 5) 91 55 [some (.ref 277), some (.int (nI m)), some (.int (nI (pcnt T))), y3] [.int (w_sum (W 7) n 0 0)] (am_hh X (am_ovl S 29 W) L) _
    refine ax_s (pc' := 56) (ls' := [some (.ref 277), some (.int (nI m)), some (.int (nI (pcnt T))), some (.int (w_sum (W 7) n 0 0))]) (st' := []) rfl rfl rfl rfl ?_
    refine ax_s (pc' := 57) (st' := [.int (nI (pcnt T))]) rfl rfl rfl rfl ?_
    refine ax_s (pc' := 58) (st' := [.ref 277, .int (nI (pcnt T))]) rfl rfl rfl rfl ?_
    refine ax_get rfl (hh_277 _ _ _) rfl rfl rfl ?_
    show am_ex (d + 5) 91 61 [some (.ref 277), some (.int (nI m)), some (.int (nI (pcnt T))), some (.int (w_sum (W 7) n 0 0))] [.int (S 277 6), .int (nI (pcnt T))] (am_hh X (am_ovl S 29 W) L) _
    refine ax_cmp_gt rfl (fun c2 => ?_) (fun c2 => ?_)
    · refine ax_s (pc' := 81) (st' := [.ref 277]) rfl rfl rfl rfl ?_
      refine ax_s (pc' := 82) (st' := [.int (nI (pcnt T)), .ref 277]) rfl rfl rfl rfl ?_
      refine ax_put rfl (hh_277 _ _ _) rfl rfl (show 6 + 1 ≤ _ from Nat.le_of_ble_eq_true rfl) rfl (am_hh_setO (i := 6) (v := (nI (pcnt T))) _ _ _ _ (by decide) rfl) ?_
      refine ax_s (pc' := 86) (st' := [.ref 277]) rfl rfl rfl rfl ?_
      refine ax_s (pc' := 87) (st' := [.int (w_sum (W 7) n 0 0), .ref 277]) rfl rfl rfl rfl ?_
      refine ax_put rfl (hh_277 _ _ _) rfl rfl (show 4 + 1 ≤ _ from Nat.le_of_ble_eq_true rfl) rfl (am_hh_setO (i := 4) (v := (w_sum (W 7) n 0 0)) _ _ _ _ (by decide) rfl) ?_
      refine ax_s (pc' := 91) (st' := [.ref 277]) rfl rfl rfl rfl ?_
      refine ax_get rfl (hh_277 _ _ _) rfl rfl rfl ?_
      show am_ex (d + 5) 91 94 [some (.ref 277), some (.int (nI m)), some (.int (nI (pcnt T))), some (.int (w_sum (W 7) n 0 0))] [.ref 278] (am_hh X (am_ovl (am_u (am_u S 277 6 (nI (pcnt T))) 277 4 (w_sum (W 7) n 0 0)) 29 W) L) _
      refine ax_s (pc' := 95) (st' := [.int 0, .ref 278]) rfl rfl rfl rfl ?_
      refine ax_s (pc' := 96) (st' := [.ref 277, .int 0, .ref 278]) rfl rfl rfl rfl ?_
      refine ax_get rfl (hh_277 _ _ _) rfl rfl rfl ?_
      show am_ex (d + 5) 91 99 [some (.ref 277), some (.int (nI m)), some (.int (nI (pcnt T))), some (.int (w_sum (W 7) n 0 0))] [.ref 279, .int 0, .ref 278] (am_hh X (am_ovl (am_u (am_u S 277 6 (nI (pcnt T))) 277 4 (w_sum (W 7) n 0 0)) 29 W) L) _
      refine ax_s (pc' := 100) (st' := [.int 0, .ref 279, .int 0, .ref 278]) rfl rfl rfl rfl ?_
      refine ax_s (pc' := 102) (st' := [.int 6, .int 0, .ref 279, .int 0, .ref 278]) rfl rfl rfl rfl ?_
      refine ax_cpy (s1 := 0) (d1 := 0) (m1 := 6) rfl (hh_278 _ _ _) (hh_279 _ _ _) rfl rfl rfl (by decide) (by decide) ⟨by decide, by decide⟩ rfl rfl (Nat.le_of_ble_eq_true rfl) (am_hh_setc _ _ _ 279 _ rfl) ?_
      refine ax_r rfl rfl rfl ?_
      exact k1 c1 c2
    · refine ax_s (pc' := 65) (st' := [.int (nI (pcnt T))]) rfl rfl rfl rfl ?_
      refine ax_s (pc' := 66) (st' := [.ref 277, .int (nI (pcnt T))]) rfl rfl rfl rfl ?_
      refine ax_get rfl (hh_277 _ _ _) rfl rfl rfl ?_
      show am_ex (d + 5) 91 69 [some (.ref 277), some (.int (nI m)), some (.int (nI (pcnt T))), some (.int (w_sum (W 7) n 0 0))] [.int (S 277 6), .int (nI (pcnt T))] (am_hh X (am_ovl S 29 W) L) _
      refine ax_cmp_ne rfl (fun c3 => ?_) (fun c3 => ?_)
      · refine ax_r rfl rfl rfl ?_
        exact k2 c1 c2 c3
      · refine ax_s (pc' := 73) (st' := [.int (w_sum (W 7) n 0 0)]) rfl rfl rfl rfl ?_
        refine ax_s (pc' := 74) (st' := [.ref 277, .int (w_sum (W 7) n 0 0)]) rfl rfl rfl rfl ?_
        refine ax_get rfl (hh_277 _ _ _) rfl rfl rfl ?_
        show am_ex (d + 5) 91 77 [some (.ref 277), some (.int (nI m)), some (.int (nI (pcnt T))), some (.int (w_sum (W 7) n 0 0))] [.int (S 277 4), .int (w_sum (W 7) n 0 0)] (am_hh X (am_ovl S 29 W) L) _
        refine ax_cmp_le rfl (fun c4 => ?_) (fun c4 => ?_)
        · refine ax_r rfl rfl rfl ?_
          exact k3 c1 c2 c3 c4
        · refine ax_s (pc' := 81) (st' := [.ref 277]) rfl rfl rfl rfl ?_
          refine ax_s (pc' := 82) (st' := [.int (nI (pcnt T)), .ref 277]) rfl rfl rfl rfl ?_
          refine ax_put rfl (hh_277 _ _ _) rfl rfl (show 6 + 1 ≤ _ from Nat.le_of_ble_eq_true rfl) rfl (am_hh_setO (i := 6) (v := (nI (pcnt T))) _ _ _ _ (by decide) rfl) ?_
          refine ax_s (pc' := 86) (st' := [.ref 277]) rfl rfl rfl rfl ?_
          refine ax_s (pc' := 87) (st' := [.int (w_sum (W 7) n 0 0), .ref 277]) rfl rfl rfl rfl ?_
          refine ax_put rfl (hh_277 _ _ _) rfl rfl (show 4 + 1 ≤ _ from Nat.le_of_ble_eq_true rfl) rfl (am_hh_setO (i := 4) (v := (w_sum (W 7) n 0 0)) _ _ _ _ (by decide) rfl) ?_
          refine ax_s (pc' := 91) (st' := [.ref 277]) rfl rfl rfl rfl ?_
          refine ax_get rfl (hh_277 _ _ _) rfl rfl rfl ?_
          show am_ex (d + 5) 91 94 [some (.ref 277), some (.int (nI m)), some (.int (nI (pcnt T))), some (.int (w_sum (W 7) n 0 0))] [.ref 278] (am_hh X (am_ovl (am_u (am_u S 277 6 (nI (pcnt T))) 277 4 (w_sum (W 7) n 0 0)) 29 W) L) _
          refine ax_s (pc' := 95) (st' := [.int 0, .ref 278]) rfl rfl rfl rfl ?_
          refine ax_s (pc' := 96) (st' := [.ref 277, .int 0, .ref 278]) rfl rfl rfl rfl ?_
          refine ax_get rfl (hh_277 _ _ _) rfl rfl rfl ?_
          show am_ex (d + 5) 91 99 [some (.ref 277), some (.int (nI m)), some (.int (nI (pcnt T))), some (.int (w_sum (W 7) n 0 0))] [.ref 279, .int 0, .ref 278] (am_hh X (am_ovl (am_u (am_u S 277 6 (nI (pcnt T))) 277 4 (w_sum (W 7) n 0 0)) 29 W) L) _
          refine ax_s (pc' := 100) (st' := [.int 0, .ref 279, .int 0, .ref 278]) rfl rfl rfl rfl ?_
          refine ax_s (pc' := 102) (st' := [.int 6, .int 0, .ref 279, .int 0, .ref 278]) rfl rfl rfl rfl ?_
          refine ax_cpy (s1 := 0) (d1 := 0) (m1 := 6) rfl (hh_278 _ _ _) (hh_279 _ _ _) rfl rfl rfl (by decide) (by decide) ⟨by decide, by decide⟩ rfl rfl (Nat.le_of_ble_eq_true rfl) (am_hh_setc _ _ _ 279 _ rfl) ?_
          refine ax_r rfl rfl rfl ?_
          exact k4 c1 c2 c3 c4
  · refine ax_s (pc' := 19) (st' := [.ref 277]) rfl rfl rfl rfl ?_
    refine ax_get rfl (hh_277 _ _ _) rfl rfl rfl ?_
    show am_ex (d + 5) 91 22 [some (.ref 277), some (.int (nI m)), some (.int (nI i)), y3] [.ref 29] (am_hh X (am_ovl S 29 W) L) _
    refine ax_s (pc' := 23) (st' := [.ref 277, .ref 29]) rfl rfl rfl rfl ?_
    refine ax_get rfl (hh_277 _ _ _) rfl rfl rfl ?_
    show am_ex (d + 5) 91 26 [some (.ref 277), some (.int (nI m)), some (.int (nI i)), y3] [.ref 278, .ref 29] (am_hh X (am_ovl S 29 W) L) _
    refine ax_call (vs := [.ref 29, .ref 278]) (rr := []) rfl rfl rfl ?_
    refine kw (am_hh_ov isW29 X S L W).symm (am_hh_ov isW29 X S L _) (fun _ => ct_makeStep (rk := (S 278)) (am_isW_k isW29 X S L) hw.1 hw.2.1 hw.2.2.1 hw.2.2.2 (hh_278 _ _ _) (by decide) (show 278 < 301 + 5 by decide)) ?_
    show am_ex (d + 5) 91 29 [some (.ref 277), some (.int (nI m)), some (.int (nI i)), y3] [.int (bI (w_mb W (S 278) g n))] (am_hh X (am_ovl S 29 (w_ms W (S 278) g n)) L) _
    refine ax_s (pc' := 30) (st' := []) rfl rfl rfl rfl ?_
    refine ax_s (pc' := 33) (ls' := [some (.ref 277), some (.int (nI m)), some (.int ((nI i) + 1)), y3]) (st' := []) rfl rfl rfl rfl ?_
    rw [nI_1]
    refine ax_s (pc' := 13) (st' := []) rfl rfl rfl rfl ?_
    exact k5 c1
