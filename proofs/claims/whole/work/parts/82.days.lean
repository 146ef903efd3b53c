theorem kt_days {d : Nat} {X : Nat × (Nat → Int32)} {S : Nat → Nat → Int32} {L : Nat → Int64} {g n t s : Nat} {Q : Option Value → am_H → Prop} (ht : t < 1000) (hs : s < 2 ^ 31) (hn1 : 1 ≤ n) (hg1 : 1 ≤ g) (hf : wF (am_sub S 20) g n) (hc9 : w_cl (am_sub S 29)) (hc0 : w_cl (am_sub S 20)) (hQ : Q (some (.int (w_dr g n t s (am_sub S 20) 0).1)) (am_hh X (am_ovl S 29 (w_dr g n t s (am_sub S 20) 0).2) L)) : am_mt (d + 6) 125 [.ref 281, .int (nI t), .int (nI s)] (am_hh X S L) Q := by
  have key : ∀ (k j z : Nat) (a : Int32) (W1 : Nat → Nat → Int32), j + k = t → z < 2 ^ 31 → wF W1 g n → Q (some (.int (w_dr g n k z W1 a).1)) (am_hh X (am_ovl S 29 (w_dr g n k z W1 a).2) L) → am_ex (d + 6) 125 20 [some (.ref 281), some (.int (nI t)), some (.int (nI s)), some (.long (lN z)), none, some (.int a), some (.int (nI j))] [] (am_hh X (am_ovl S 29 W1) L) Q := by
    intro k
    induction k with
    | zero =>
      intro j z a W1 hj hz hf1 hQ
      exact wl_days hf1 hn1 hg1 hz (fun _ => hQ) (fun c => absurd (nI_le (by omega) (by omega)) c) (fun c => absurd (nI_le (by omega) (by omega)) c)
    | succ k ih =>
      intro j z a W1 hj hz hf1 hQ
      unfold w_dr at hQ
      refine wl_days hf1 hn1 hg1 hz (fun c => absurd c (nI_ge (by omega) (by omega))) (fun _ c => ?_) (fun _ c => ?_)
      · rw [if_pos c] at hQ
        exact ih (j + 1) _ _ _ (by omega) (dr_b z) (wF_ms (wF_hp hf1)) hQ
      · rw [if_neg (ne_true_of_eq_false c)] at hQ
        exact ih (j + 1) _ _ _ (by omega) (dr_b z) (wF_ms (wF_hp hf1)) hQ
  refine wp_days hf hc9 hc0 ?_
  rw [nI_l hs]
  exact key t 0 s 0 _ (by omega) hs hf hQ
