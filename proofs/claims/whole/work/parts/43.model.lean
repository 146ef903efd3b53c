theorem mt_isBalance {d : Nat} {X : Nat × (Nat → Int32)} {S : Nat → Nat → Int32} {L : Nat → Int64} {s : Nat} {p : Int32} {Q : Option Value → am_H → Prop} (hs : am_isT s)  (hQ : Q (some (.int (bI (m_bal S s p)))) (am_hh X S L)) : am_mt (d + 1) 183 [.ref 285, .ref s, .int p] (am_hh X S L) Q := by
  refine ax_in (ls := [some (.ref 285), some (.ref s), some (.int p)]) rfl ?_
  refine ax_s (pc' := 1) (st' := [.int p]) rfl rfl rfl rfl ?_
  refine ax_call (vs := [.int p]) (rr := []) rfl rfl rfl ?_
  refine mt_off ?_
  show am_ex (d + 1) 183 4 [some (.ref 285), some (.ref s), some (.int p)] [.int (w_abs p)] (am_hh X S L) _
  refine ax_s (pc' := 6) (st' := [.int 10, .int (w_abs p)]) rfl rfl rfl rfl ?_
  refine ax_s (pc' := 7) (st' := [.ref s, .int 10, .int (w_abs p)]) rfl rfl rfl rfl ?_
  refine ax_s (pc' := 8) (st' := [.int 2, .ref s, .int 10, .int (w_abs p)]) rfl rfl rfl rfl ?_
  refine ax_ald (j := 2) (v := (S s 2)) rfl (isT_eq hs _ _ _) (isT_in hs _ _ _) rfl (by omega) (by decide) rfl ?_
  refine ax_s (pc' := 10) (st' := [.int (10 * (S s 2)), .int (w_abs p)]) rfl rfl rfl rfl ?_
  refine ax_cmp_gt rfl (fun c10 => ?_) (fun c10 => ?_)
  · refine ax_s (pc' := 18) (st' := [.int 0]) rfl rfl rfl rfl ?_
    refine ax_rb (b := false) rfl rfl ?_
    simpa [bI, m_bal, c10] using hQ
  · refine ax_s (pc' := 14) (st' := [.int 1]) rfl rfl rfl rfl ?_
    refine ax_s (pc' := 18) (st' := [.int 1]) rfl rfl rfl rfl ?_
    refine ax_rb (b := true) rfl rfl ?_
    simpa [bI, m_bal, c10] using hQ
theorem lm_partyIn {d : Nat} {X : Nat × (Nat → Int32)} {S : Nat → Nat → Int32} {L : Nat → Int64} {n : Nat} {s : Nat} {q : Int32} {Q : Option Value → am_H → Prop} (hn : S 285 7 = nI n) (hn6 : n ≤ 6) (hs : am_isT s)  : ∀ (k j : Nat) (a : Int32), j + k = n → Q (some (.int (m_pin S s q k j a))) (am_hh X S L) → am_ex d 174 5 [some (.ref 285), some (.ref s), some (.int q), some (.int a), some (.int (nI j))] [] (am_hh X S L) Q
  | 0, j, a, hj, hQ => by
    refine ax_s (pc' := 7) (st' := [.int (nI j)]) rfl rfl rfl rfl ?_
    refine ax_s (pc' := 8) (st' := [.ref 285, .int (nI j)]) rfl rfl rfl rfl ?_
    refine ax_get rfl (hh_285 _ _ _) rfl rfl rfl ?_
    show am_ex d 174 11 [some (.ref 285), some (.ref s), some (.int q), some (.int a), some (.int (nI j))] [.int (S 285 7), .int (nI j)] (am_hh X S L) _
    refine ax_cmp_ge rfl (fun c11 => ?_) (fun c11 => absurd (by rw [hn]; exact nI_le (by omega) (by omega)) c11)
    refine ax_s (pc' := 50) (st' := [.int a]) rfl rfl rfl rfl ?_
    refine ax_r rfl rfl rfl ?_
    exact hQ
  | k + 1, j, a, hj, hQ => by
    refine ax_s (pc' := 7) (st' := [.int (nI j)]) rfl rfl rfl rfl ?_
    refine ax_s (pc' := 8) (st' := [.ref 285, .int (nI j)]) rfl rfl rfl rfl ?_
    refine ax_get rfl (hh_285 _ _ _) rfl rfl rfl ?_
    show am_ex d 174 11 [some (.ref 285), some (.ref s), some (.int q), some (.int a), some (.int (nI j))] [.int (S 285 7), .int (nI j)] (am_hh X S L) _
    refine ax_cmp_ge rfl (fun c11 => absurd c11 (by rw [hn]; exact nI_ge (by omega) (by omega))) (fun c11 => ?_)
    refine ax_s (pc' := 15) (st' := [.ref s]) rfl rfl rfl rfl ?_
    refine ax_s (pc' := 17) (st' := [.int 15, .ref s]) rfl rfl rfl rfl ?_
    refine ax_s (pc' := 19) (st' := [.int (nI j), .int 15, .ref s]) rfl rfl rfl rfl ?_
    refine ax_s (pc' := 20) (st' := [.int (15 + (nI j)), .ref s]) rfl rfl rfl rfl ?_
    refine ax_ald (j := (15 + j)) (v := (S s (15 + j))) rfl (isT_eq hs _ _ _) (isT_in hs _ _ _) (am_na (x := 15) (y := j) rfl rfl) (by omega) (by decide) rfl ?_
    refine ax_s (pc' := 22) (st' := [.int 1, .int (S s (15 + j))]) rfl rfl rfl rfl ?_
    refine ax_cmp_ne rfl (fun c22 => ?_) (fun c22 => ?_)
    · refine ax_s (pc' := 42) (st' := [.int a]) rfl rfl rfl rfl ?_
      refine ax_s (pc' := 43) (ls' := [some (.ref 285), some (.ref s), some (.int q), some (.int a), some (.int (nI j))]) (st' := []) rfl rfl rfl rfl ?_
      refine ax_s (pc' := 46) (ls' := [some (.ref 285), some (.ref s), some (.int q), some (.int a), some (.int ((nI j) + 1))]) (st' := []) rfl rfl rfl rfl ?_
      rw [nI_1]
      refine ax_s (pc' := 5) (st' := []) rfl rfl rfl rfl ?_
      exact lm_partyIn hn hn6 hs k (j + 1) _ (by omega) (by simpa [m_pin, c11, c22] using hQ)
    · refine ax_s (pc' := 26) (st' := [.ref s]) rfl rfl rfl rfl ?_
      refine ax_s (pc' := 28) (st' := [.int 21, .ref s]) rfl rfl rfl rfl ?_
      refine ax_s (pc' := 30) (st' := [.int (nI j), .int 21, .ref s]) rfl rfl rfl rfl ?_
      refine ax_s (pc' := 31) (st' := [.int (21 + (nI j)), .ref s]) rfl rfl rfl rfl ?_
      refine ax_ald (j := (21 + j)) (v := (S s (21 + j))) rfl (isT_eq hs _ _ _) (isT_in hs _ _ _) (am_na (x := 21) (y := j) rfl rfl) (by omega) (by decide) rfl ?_
      refine ax_s (pc' := 33) (st' := [.int q, .int (S s (21 + j))]) rfl rfl rfl rfl ?_
      refine ax_cmp_ne rfl (fun c33 => ?_) (fun c33 => ?_)
      · refine ax_s (pc' := 42) (st' := [.int a]) rfl rfl rfl rfl ?_
        refine ax_s (pc' := 43) (ls' := [some (.ref 285), some (.ref s), some (.int q), some (.int a), some (.int (nI j))]) (st' := []) rfl rfl rfl rfl ?_
        refine ax_s (pc' := 46) (ls' := [some (.ref 285), some (.ref s), some (.int q), some (.int a), some (.int ((nI j) + 1))]) (st' := []) rfl rfl rfl rfl ?_
        rw [nI_1]
        refine ax_s (pc' := 5) (st' := []) rfl rfl rfl rfl ?_
        exact lm_partyIn hn hn6 hs k (j + 1) _ (by omega) (by simpa [m_pin, c11, c22, c33] using hQ)
      · refine ax_s (pc' := 38) (st' := [.int (nI j)]) rfl rfl rfl rfl ?_
        refine ax_s (pc' := 42) (st' := [.int (nI j)]) rfl rfl rfl rfl ?_
        refine ax_s (pc' := 43) (ls' := [some (.ref 285), some (.ref s), some (.int q), some (.int (nI j)), some (.int (nI j))]) (st' := []) rfl rfl rfl rfl ?_
        refine ax_s (pc' := 46) (ls' := [some (.ref 285), some (.ref s), some (.int q), some (.int (nI j)), some (.int ((nI j) + 1))]) (st' := []) rfl rfl rfl rfl ?_
        rw [nI_1]
        refine ax_s (pc' := 5) (st' := []) rfl rfl rfl rfl ?_
        exact lm_partyIn hn hn6 hs k (j + 1) _ (by omega) (by simpa [m_pin, c11, c22, c33] using hQ)
theorem mt_partyIn {d : Nat} {X : Nat × (Nat → Int32)} {S : Nat → Nat → Int32} {L : Nat → Int64} {n : Nat} {s : Nat} {q : Int32} {Q : Option Value → am_H → Prop} (hn : S 285 7 = nI n) (hn6 : n ≤ 6) (hs : am_isT s)  (hQ : Q (some (.int (m_pin S s q n 0 (-1)))) (am_hh X S L)) : am_mt d 174 [.ref 285, .ref s, .int q] (am_hh X S L) Q := by
  refine ax_in (ls := [some (.ref 285), some (.ref s), some (.int q), none, none]) rfl ?_
  refine ax_s (pc' := 1) (st' := [.int (-1)]) rfl rfl rfl rfl ?_
  refine ax_s (pc' := 2) (ls' := [some (.ref 285), some (.ref s), some (.int q), some (.int (-1)), none]) (st' := []) rfl rfl rfl rfl ?_
  refine ax_s (pc' := 3) (st' := [.int 0]) rfl rfl rfl rfl ?_
  refine ax_s (pc' := 5) (ls' := [some (.ref 285), some (.ref s), some (.int q), some (.int (-1)), some (.int 0)]) (st' := []) rfl rfl rfl rfl ?_
  exact lm_partyIn hn hn6 hs n 0 (-1) (by omega) hQ
theorem lm_those {d : Nat} {X : Nat × (Nat → Int32)} {S : Nat → Nat → Int32} {L : Nat → Int64} {n : Nat} {s : Nat} {q : Int32} {Q : Option Value → am_H → Prop} (hn : S 285 7 = nI n) (hn6 : n ≤ 6) (hs : am_isT s)  : ∀ (k j : Nat) (a : Int32), j + k = n → Q (some (.int (m_th S s q k j a))) (am_hh X S L) → am_ex d 176 5 [some (.ref 285), some (.ref s), some (.int q), some (.int a), some (.int (nI j))] [] (am_hh X S L) Q
  | 0, j, a, hj, hQ => by
    refine ax_s (pc' := 7) (st' := [.int (nI j)]) rfl rfl rfl rfl ?_
    refine ax_s (pc' := 8) (st' := [.ref 285, .int (nI j)]) rfl rfl rfl rfl ?_
    refine ax_get rfl (hh_285 _ _ _) rfl rfl rfl ?_
    show am_ex d 176 11 [some (.ref 285), some (.ref s), some (.int q), some (.int a), some (.int (nI j))] [.int (S 285 7), .int (nI j)] (am_hh X S L) _
    refine ax_cmp_ge rfl (fun c11 => ?_) (fun c11 => absurd (by rw [hn]; exact nI_le (by omega) (by omega)) c11)
    refine ax_s (pc' := 43) (st' := [.int a]) rfl rfl rfl rfl ?_
    refine ax_r rfl rfl rfl ?_
    exact hQ
  | k + 1, j, a, hj, hQ => by
    refine ax_s (pc' := 7) (st' := [.int (nI j)]) rfl rfl rfl rfl ?_
    refine ax_s (pc' := 8) (st' := [.ref 285, .int (nI j)]) rfl rfl rfl rfl ?_
    refine ax_get rfl (hh_285 _ _ _) rfl rfl rfl ?_
    show am_ex d 176 11 [some (.ref 285), some (.ref s), some (.int q), some (.int a), some (.int (nI j))] [.int (S 285 7), .int (nI j)] (am_hh X S L) _
    refine ax_cmp_ge rfl (fun c11 => absurd c11 (by rw [hn]; exact nI_ge (by omega) (by omega))) (fun c11 => ?_)
    refine ax_s (pc' := 15) (st' := [.int a]) rfl rfl rfl rfl ?_
    refine ax_s (pc' := 16) (st' := [.ref s, .int a]) rfl rfl rfl rfl ?_
    refine ax_s (pc' := 18) (st' := [.int 15, .ref s, .int a]) rfl rfl rfl rfl ?_
    refine ax_s (pc' := 20) (st' := [.int (nI j), .int 15, .ref s, .int a]) rfl rfl rfl rfl ?_
    refine ax_s (pc' := 21) (st' := [.int (15 + (nI j)), .ref s, .int a]) rfl rfl rfl rfl ?_
    refine ax_ald (j := (15 + j)) (v := (S s (15 + j))) rfl (isT_eq hs _ _ _) (isT_in hs _ _ _) (am_na (x := 15) (y := j) rfl rfl) (by omega) (by decide) rfl ?_
    refine ax_s (pc' := 23) (st' := [.int q, .int (S s (15 + j)), .int a]) rfl rfl rfl rfl ?_
    refine ax_cmp_ne rfl (fun c23 => ?_) (fun c23 => ?_)
    · refine ax_s (pc' := 34) (st' := [.int 0, .int a]) rfl rfl rfl rfl ?_
      refine ax_s (pc' := 35) (st' := [.int (a ||| 0)]) rfl rfl rfl rfl ?_
      refine ax_s (pc' := 36) (ls' := [some (.ref 285), some (.ref s), some (.int q), some (.int (a ||| 0)), some (.int (nI j))]) (st' := []) rfl rfl rfl rfl ?_
      refine ax_s (pc' := 39) (ls' := [some (.ref 285), some (.ref s), some (.int q), some (.int (a ||| 0)), some (.int ((nI j) + 1))]) (st' := []) rfl rfl rfl rfl ?_
      rw [nI_1]
      refine ax_s (pc' := 5) (st' := []) rfl rfl rfl rfl ?_
      exact lm_those hn hn6 hs k (j + 1) _ (by omega) (by simpa [m_th, c11, c23] using hQ)
    · refine ax_s (pc' := 27) (st' := [.int 1, .int a]) rfl rfl rfl rfl ?_
      refine ax_s (pc' := 29) (st' := [.int (nI j), .int 1, .int a]) rfl rfl rfl rfl ?_
      refine ax_s (pc' := 30) (st' := [.int (1 <<< ((nI j) &&& 31)), .int a]) rfl rfl rfl rfl ?_
      refine ax_s (pc' := 34) (st' := [.int (1 <<< ((nI j) &&& 31)), .int a]) rfl rfl rfl rfl ?_
      refine ax_s (pc' := 35) (st' := [.int (a ||| (1 <<< ((nI j) &&& 31)))]) rfl rfl rfl rfl ?_
      refine ax_s (pc' := 36) (ls' := [some (.ref 285), some (.ref s), some (.int q), some (.int (a ||| (1 <<< ((nI j) &&& 31)))), some (.int (nI j))]) (st' := []) rfl rfl rfl rfl ?_
      refine ax_s (pc' := 39) (ls' := [some (.ref 285), some (.ref s), some (.int q), some (.int (a ||| (1 <<< ((nI j) &&& 31)))), some (.int ((nI j) + 1))]) (st' := []) rfl rfl rfl rfl ?_
      rw [nI_1]
      refine ax_s (pc' := 5) (st' := []) rfl rfl rfl rfl ?_
      exact lm_those hn hn6 hs k (j + 1) _ (by omega) (by simpa [m_th, c11, c23] using hQ)
theorem mt_those {d : Nat} {X : Nat × (Nat → Int32)} {S : Nat → Nat → Int32} {L : Nat → Int64} {n : Nat} {s : Nat} {q : Int32} {Q : Option Value → am_H → Prop} (hn : S 285 7 = nI n) (hn6 : n ≤ 6) (hs : am_isT s)  (hQ : Q (some (.int (m_th S s q n 0 0))) (am_hh X S L)) : am_mt d 176 [.ref 285, .ref s, .int q] (am_hh X S L) Q := by
  refine ax_in (ls := [some (.ref 285), some (.ref s), some (.int q), none, none]) rfl ?_
  refine ax_s (pc' := 1) (st' := [.int 0]) rfl rfl rfl rfl ?_
  refine ax_s (pc' := 2) (ls' := [some (.ref 285), some (.ref s), some (.int q), some (.int 0), none]) (st' := []) rfl rfl rfl rfl ?_
  refine ax_s (pc' := 3) (st' := [.int 0]) rfl rfl rfl rfl ?_
  refine ax_s (pc' := 5) (ls' := [some (.ref 285), some (.ref s), some (.int q), some (.int 0), some (.int 0)]) (st' := []) rfl rfl rfl rfl ?_
  exact lm_those hn hn6 hs n 0 0 (by omega) hQ
theorem mt_isDone {d : Nat} {X : Nat × (Nat → Int32)} {S : Nat → Nat → Int32} {L : Nat → Int64} {n : Nat} {g : Nat} {s : Nat} {p : Int32} {j : Nat} {Q : Option Value → am_H → Prop} (hn : S 285 7 = nI n) (hn6 : n ≤ 6) (hg : S 285 8 = nI g) (hg4 : 4 ≤ g) (hg12 : g ≤ 12) (hs : am_isT s) (hp : p = nI j) (hj6 : j < 6)  (hQ : Q (some (.int (bI (m_dn S s g n j)))) (am_hh X S L)) : am_mt (d + 2) 175 [.ref 285, .ref s, .int p] (am_hh X S L) Q := by
  refine ax_in (ls := [some (.ref 285), some (.ref s), some (.int p), none]) rfl ?_
  refine ax_s (pc' := 1) (st' := [.ref s]) rfl rfl rfl rfl ?_
  refine ax_s (pc' := 3) (st' := [.int 27, .ref s]) rfl rfl rfl rfl ?_
  refine ax_s (pc' := 4) (st' := [.int p, .int 27, .ref s]) rfl rfl rfl rfl ?_
  refine ax_s (pc' := 5) (st' := [.int (27 + p), .ref s]) rfl rfl rfl rfl ?_
  refine ax_ald (j := (27 + j)) (v := (S s (27 + j))) rfl (isT_eq hs _ _ _) (isT_in hs _ _ _) (am_na (x := 27) (y := j) rfl hp) (by omega) (by decide) rfl ?_
  refine ax_s (pc' := 7) (st' := [.ref 285, .int (S s (27 + j))]) rfl rfl rfl rfl ?_
  refine ax_get rfl (hh_285 _ _ _) rfl rfl rfl ?_
  show am_ex (d + 2) 175 10 [some (.ref 285), some (.ref s), some (.int p), none] [.ref 292, .int (S s (27 + j))] (am_hh X S L) _
  refine ax_s (pc' := 11) (st' := [.int p, .ref 292, .int (S s (27 + j))]) rfl rfl rfl rfl ?_
  refine ax_ald (j := j) (v := (S 292 j)) rfl (hh_292 _ _ _) rfl hp hj6 (by decide) rfl ?_
  refine ax_cmp_lt rfl (fun c12 => ?_) (fun c12 => ?_)
  · refine ax_s (pc' := 20) (st' := [.int 0]) rfl rfl rfl rfl ?_
    refine ax_s (pc' := 21) (ls' := [some (.ref 285), some (.ref s), some (.int p), some (.int 0)]) (st' := []) rfl rfl rfl rfl ?_
    refine ax_s (pc' := 22) (st' := [.ref 285]) rfl rfl rfl rfl ?_
    refine ax_get rfl (hh_285 _ _ _) rfl rfl rfl ?_
    show am_ex (d + 2) 175 25 [some (.ref 285), some (.ref s), some (.int p), some (.int 0)] [.ref 290] (am_hh X S L) _
    refine ax_s (pc' := 26) (st' := [.int p, .ref 290]) rfl rfl rfl rfl ?_
    refine ax_ald (j := j) (v := (S 290 j)) rfl (hh_290 _ _ _) rfl hp hj6 (by decide) rfl ?_
    by_cases s27_2 : (S 290 j) = 2
    · refine ax_s (pc' := 56) (ls' := [some (.ref 285), some (.ref s), some (.int p), some (.int 0)]) (st' := []) (h1 := (am_hh X S L)) rfl (by rw [s27_2]; rfl) rfl rfl ?_
      refine ax_s (pc' := 57) (st' := [.int 0]) rfl rfl rfl rfl ?_
      refine ax_if_eq rfl (fun c57 => ?_) (fun c57 => False.elim (by revert c57; decide))
      refine ax_s (pc' := 74) (st' := [.int 0]) rfl rfl rfl rfl ?_
      refine ax_rb (b := false) rfl rfl ?_
      simpa [bI, m_dn, c12, s27_2, c57] using hQ
    by_cases s27_3 : (S 290 j) = 3
    · refine ax_s (pc' := 75) (ls' := [some (.ref 285), some (.ref s), some (.int p), some (.int 0)]) (st' := []) (h1 := (am_hh X S L)) rfl (by rw [s27_3]; rfl) rfl rfl ?_
      refine ax_s (pc' := 76) (st' := [.ref s]) rfl rfl rfl rfl ?_
      refine ax_s (pc' := 78) (st' := [.int 27, .ref s]) rfl rfl rfl rfl ?_
      refine ax_s (pc' := 79) (st' := [.int p, .int 27, .ref s]) rfl rfl rfl rfl ?_
      refine ax_s (pc' := 80) (st' := [.int (27 + p), .ref s]) rfl rfl rfl rfl ?_
      refine ax_ald (j := (27 + j)) (v := (S s (27 + j))) rfl (isT_eq hs _ _ _) (isT_in hs _ _ _) (am_na (x := 27) (y := j) rfl hp) (by omega) (by decide) rfl ?_
      refine ax_s (pc' := 82) (st' := [.int 1, .int (S s (27 + j))]) rfl rfl rfl rfl ?_
      refine ax_cmp_lt rfl (fun c82 => ?_) (fun c82 => ?_)
      · refine ax_s (pc' := 90) (st' := [.int 0]) rfl rfl rfl rfl ?_
        refine ax_rb (b := false) rfl rfl ?_
        simpa [bI, m_dn, c12, s27_3, c82] using hQ
      · refine ax_s (pc' := 86) (st' := [.int 1]) rfl rfl rfl rfl ?_
        refine ax_s (pc' := 90) (st' := [.int 1]) rfl rfl rfl rfl ?_
        refine ax_rb (b := true) rfl rfl ?_
        simpa [bI, m_dn, c12, s27_3, c82] using hQ
    by_cases s27_5 : (S 290 j) = 5
    · refine ax_s (pc' := 91) (ls' := [some (.ref 285), some (.ref s), some (.int p), some (.int 0)]) (st' := []) (h1 := (am_hh X S L)) rfl (by rw [s27_5]; rfl) rfl rfl ?_
      refine ax_s (pc' := 92) (st' := [.int 0]) rfl rfl rfl rfl ?_
      refine ax_if_ne rfl (fun c92 => False.elim (by revert c92; decide)) (fun c92 => ?_)
      refine ax_s (pc' := 96) (st' := [.ref s]) rfl rfl rfl rfl ?_
      refine ax_s (pc' := 98) (st' := [.int 27, .ref s]) rfl rfl rfl rfl ?_
      refine ax_s (pc' := 99) (st' := [.int p, .int 27, .ref s]) rfl rfl rfl rfl ?_
      refine ax_s (pc' := 100) (st' := [.int (27 + p), .ref s]) rfl rfl rfl rfl ?_
      refine ax_ald (j := (27 + j)) (v := (S s (27 + j))) rfl (isT_eq hs _ _ _) (isT_in hs _ _ _) (am_na (x := 27) (y := j) rfl hp) (by omega) (by decide) rfl ?_
      refine ax_s (pc' := 102) (st' := [.int 1, .int (S s (27 + j))]) rfl rfl rfl rfl ?_
      refine ax_cmp_lt rfl (fun c102 => ?_) (fun c102 => ?_)
      · refine ax_s (pc' := 129) (st' := [.int 0]) rfl rfl rfl rfl ?_
        refine ax_rb (b := false) rfl rfl ?_
        simpa [bI, m_dn, c12, s27_5, c92, c102] using hQ
      · refine ax_s (pc' := 106) (st' := [.ref 285]) rfl rfl rfl rfl ?_
        refine ax_s (pc' := 107) (st' := [.ref s, .ref 285]) rfl rfl rfl rfl ?_
        refine ax_s (pc' := 108) (st' := [.ref s, .ref s, .ref 285]) rfl rfl rfl rfl ?_
        refine ax_s (pc' := 109) (st' := [.int 1, .ref s, .ref s, .ref 285]) rfl rfl rfl rfl ?_
        refine ax_ald (j := 1) (v := (S s 1)) rfl (isT_eq hs _ _ _) (isT_in hs _ _ _) rfl (by omega) (by decide) rfl ?_
        refine ax_call (vs := [.ref 285, .ref s, .int (S s 1)]) (rr := []) rfl rfl rfl ?_
        refine mt_leanBy hn hn6 hg hg4 hg12 hs ?_
        show am_ex (d + 2) 175 113 [some (.ref 285), some (.ref s), some (.int p), some (.int 0)] [.int (m_lean S s g n (S s 1))] (am_hh X S L) _
        refine ax_call (vs := [.int (m_lean S s g n (S s 1))]) (rr := []) rfl rfl rfl ?_
        refine mt_off ?_
        show am_ex (d + 2) 175 116 [some (.ref 285), some (.ref s), some (.int p), some (.int 0)] [.int (w_abs (m_lean S s g n (S s 1)))] (am_hh X S L) _
        refine ax_s (pc' := 117) (st' := [.int 5, .int (w_abs (m_lean S s g n (S s 1)))]) rfl rfl rfl rfl ?_
        refine ax_s (pc' := 118) (st' := [.ref s, .int 5, .int (w_abs (m_lean S s g n (S s 1)))]) rfl rfl rfl rfl ?_
        refine ax_s (pc' := 119) (st' := [.int 2, .ref s, .int 5, .int (w_abs (m_lean S s g n (S s 1)))]) rfl rfl rfl rfl ?_
        refine ax_ald (j := 2) (v := (S s 2)) rfl (isT_eq hs _ _ _) (isT_in hs _ _ _) rfl (by omega) (by decide) rfl ?_
        refine ax_s (pc' := 121) (st' := [.int (5 * (S s 2)), .int (w_abs (m_lean S s g n (S s 1)))]) rfl rfl rfl rfl ?_
        refine ax_cmp_lt rfl (fun c121 => ?_) (fun c121 => ?_)
        · refine ax_s (pc' := 129) (st' := [.int 0]) rfl rfl rfl rfl ?_
          refine ax_rb (b := false) rfl rfl ?_
          simpa [bI, m_dn, c12, s27_5, c92, c102, c121] using hQ
        · refine ax_s (pc' := 125) (st' := [.int 1]) rfl rfl rfl rfl ?_
          refine ax_s (pc' := 129) (st' := [.int 1]) rfl rfl rfl rfl ?_
          refine ax_rb (b := true) rfl rfl ?_
          simpa [bI, m_dn, c12, s27_5, c92, c102, c121] using hQ
    refine ax_s (pc' := 130) (ls' := [some (.ref 285), some (.ref s), some (.int p), some (.int 0)]) (st' := []) (h1 := (am_hh X S L)) rfl (am_tsw [2, 3, 5] (by decide) (by decide) (by intro q hq; simp only [List.mem_cons, List.not_mem_nil, or_false] at hq; rcases hq with rfl | rfl | rfl <;> first | exact lv_neT s27_2 (by decide) | exact lv_neT s27_3 (by decide) | exact lv_neT s27_5 (by decide)) (by decide)) rfl rfl ?_
    refine ax_s (pc' := 131) (st' := [.int 0]) rfl rfl rfl rfl ?_
    refine ax_rb (b := false) rfl rfl ?_
    simpa [bI, m_dn, c12, s27_2, s27_3, s27_5] using hQ
  · refine ax_s (pc' := 16) (st' := [.int 1]) rfl rfl rfl rfl ?_
    refine ax_s (pc' := 20) (st' := [.int 1]) rfl rfl rfl rfl ?_
    refine ax_s (pc' := 21) (ls' := [some (.ref 285), some (.ref s), some (.int p), some (.int 1)]) (st' := []) rfl rfl rfl rfl ?_
    refine ax_s (pc' := 22) (st' := [.ref 285]) rfl rfl rfl rfl ?_
    refine ax_get rfl (hh_285 _ _ _) rfl rfl rfl ?_
    show am_ex (d + 2) 175 25 [some (.ref 285), some (.ref s), some (.int p), some (.int 1)] [.ref 290] (am_hh X S L) _
    refine ax_s (pc' := 26) (st' := [.int p, .ref 290]) rfl rfl rfl rfl ?_
    refine ax_ald (j := j) (v := (S 290 j)) rfl (hh_290 _ _ _) rfl hp hj6 (by decide) rfl ?_
    by_cases s27_2 : (S 290 j) = 2
    · refine ax_s (pc' := 56) (ls' := [some (.ref 285), some (.ref s), some (.int p), some (.int 1)]) (st' := []) (h1 := (am_hh X S L)) rfl (by rw [s27_2]; rfl) rfl rfl ?_
      refine ax_s (pc' := 57) (st' := [.int 1]) rfl rfl rfl rfl ?_
      refine ax_if_eq rfl (fun c57 => False.elim (by revert c57; decide)) (fun c57 => ?_)
      refine ax_s (pc' := 61) (st' := [.ref 285]) rfl rfl rfl rfl ?_
      refine ax_s (pc' := 62) (st' := [.ref s, .ref 285]) rfl rfl rfl rfl ?_
      refine ax_s (pc' := 63) (st' := [.int 0, .ref s, .ref 285]) rfl rfl rfl rfl ?_
      refine ax_call (vs := [.ref 285, .ref s, .int 0]) (rr := []) rfl rfl rfl ?_
      refine mt_those hn hn6 hs ?_
      show am_ex (d + 2) 175 66 [some (.ref 285), some (.ref s), some (.int p), some (.int 1)] [.int (m_th S s 0 n 0 0)] (am_hh X S L) _
      refine ax_if_eq rfl (fun c66 => ?_) (fun c66 => ?_)
      · refine ax_s (pc' := 74) (st' := [.int 0]) rfl rfl rfl rfl ?_
        refine ax_rb (b := false) rfl rfl ?_
        simpa [bI, m_dn, c12, s27_2, c57, c66] using hQ
      · refine ax_s (pc' := 70) (st' := [.int 1]) rfl rfl rfl rfl ?_
        refine ax_s (pc' := 74) (st' := [.int 1]) rfl rfl rfl rfl ?_
        refine ax_rb (b := true) rfl rfl ?_
        simpa [bI, m_dn, c12, s27_2, c57, c66] using hQ
    by_cases s27_3 : (S 290 j) = 3
    · refine ax_s (pc' := 75) (ls' := [some (.ref 285), some (.ref s), some (.int p), some (.int 1)]) (st' := []) (h1 := (am_hh X S L)) rfl (by rw [s27_3]; rfl) rfl rfl ?_
      refine ax_s (pc' := 76) (st' := [.ref s]) rfl rfl rfl rfl ?_
      refine ax_s (pc' := 78) (st' := [.int 27, .ref s]) rfl rfl rfl rfl ?_
      refine ax_s (pc' := 79) (st' := [.int p, .int 27, .ref s]) rfl rfl rfl rfl ?_
      refine ax_s (pc' := 80) (st' := [.int (27 + p), .ref s]) rfl rfl rfl rfl ?_
      refine ax_ald (j := (27 + j)) (v := (S s (27 + j))) rfl (isT_eq hs _ _ _) (isT_in hs _ _ _) (am_na (x := 27) (y := j) rfl hp) (by omega) (by decide) rfl ?_
      refine ax_s (pc' := 82) (st' := [.int 1, .int (S s (27 + j))]) rfl rfl rfl rfl ?_
      refine ax_cmp_lt rfl (fun c82 => ?_) (fun c82 => ?_)
      · refine ax_s (pc' := 90) (st' := [.int 0]) rfl rfl rfl rfl ?_
        refine ax_rb (b := false) rfl rfl ?_
        simpa [bI, m_dn, c12, s27_3, c82] using hQ
      · refine ax_s (pc' := 86) (st' := [.int 1]) rfl rfl rfl rfl ?_
        refine ax_s (pc' := 90) (st' := [.int 1]) rfl rfl rfl rfl ?_
        refine ax_rb (b := true) rfl rfl ?_
        simpa [bI, m_dn, c12, s27_3, c82] using hQ
    by_cases s27_5 : (S 290 j) = 5
    · refine ax_s (pc' := 91) (ls' := [some (.ref 285), some (.ref s), some (.int p), some (.int 1)]) (st' := []) (h1 := (am_hh X S L)) rfl (by rw [s27_5]; rfl) rfl rfl ?_
      refine ax_s (pc' := 92) (st' := [.int 1]) rfl rfl rfl rfl ?_
      refine ax_if_ne rfl (fun c92 => ?_) (fun c92 => False.elim (by revert c92; decide))
      refine ax_s (pc' := 125) (st' := [.int 1]) rfl rfl rfl rfl ?_
      refine ax_s (pc' := 129) (st' := [.int 1]) rfl rfl rfl rfl ?_
      refine ax_rb (b := true) rfl rfl ?_
      simpa [bI, m_dn, c12, s27_5, c92] using hQ
    refine ax_s (pc' := 130) (ls' := [some (.ref 285), some (.ref s), some (.int p), some (.int 1)]) (st' := []) (h1 := (am_hh X S L)) rfl (am_tsw [2, 3, 5] (by decide) (by decide) (by intro q hq; simp only [List.mem_cons, List.not_mem_nil, or_false] at hq; rcases hq with rfl | rfl | rfl <;> first | exact lv_neT s27_2 (by decide) | exact lv_neT s27_3 (by decide) | exact lv_neT s27_5 (by decide)) (by decide)) rfl rfl ?_
    refine ax_s (pc' := 131) (st' := [.int 1]) rfl rfl rfl rfl ?_
    refine ax_rb (b := true) rfl rfl ?_
    simpa [bI, m_dn, c12, s27_2, s27_3, s27_5] using hQ
theorem lm_nextWaiting {d : Nat} {X : Nat × (Nat → Int32)} {S : Nat → Nat → Int32} {L : Nat → Int64} {n : Nat} {s : Nat} {Q : Option Value → am_H → Prop} (hn : S 285 7 = nI n) (hn6 : n ≤ 6) (hs : am_isT s) (hrk : ∀ j, j < 6 → ∃ r, r < 6 ∧ S 297 j = nI r)  : ∀ (k j : Nat), j + k = n → Q (some (.int (m_nx S s k j))) (am_hh X S L) → am_ex d 181 2 [some (.ref 285), some (.ref s), some (.int (nI j))] [] (am_hh X S L) Q
  | 0, j, hj, hQ => by
    refine ax_s (pc' := 3) (st' := [.int (nI j)]) rfl rfl rfl rfl ?_
    refine ax_s (pc' := 4) (st' := [.ref 285, .int (nI j)]) rfl rfl rfl rfl ?_
    refine ax_get rfl (hh_285 _ _ _) rfl rfl rfl ?_
    show am_ex d 181 7 [some (.ref 285), some (.ref s), some (.int (nI j))] [.int (S 285 7), .int (nI j)] (am_hh X S L) _
    refine ax_cmp_ge rfl (fun c7 => ?_) (fun c7 => absurd (by rw [hn]; exact nI_le (by omega) (by omega)) c7)
    refine ax_s (pc' := 38) (st' := [.int (-1)]) rfl rfl rfl rfl ?_
    refine ax_r rfl rfl rfl ?_
    exact hQ
  | k + 1, j, hj, hQ => by
    refine ax_s (pc' := 3) (st' := [.int (nI j)]) rfl rfl rfl rfl ?_
    refine ax_s (pc' := 4) (st' := [.ref 285, .int (nI j)]) rfl rfl rfl rfl ?_
    refine ax_get rfl (hh_285 _ _ _) rfl rfl rfl ?_
    show am_ex d 181 7 [some (.ref 285), some (.ref s), some (.int (nI j))] [.int (S 285 7), .int (nI j)] (am_hh X S L) _
    refine ax_cmp_ge rfl (fun c7 => absurd c7 (by rw [hn]; exact nI_ge (by omega) (by omega))) (fun c7 => ?_)
    obtain ⟨r, hr6, er⟩ := hrk j (by omega)
    refine ax_s (pc' := 11) (st' := [.ref s]) rfl rfl rfl rfl ?_
    refine ax_s (pc' := 13) (st' := [.int 15, .ref s]) rfl rfl rfl rfl ?_
    refine ax_s (pc' := 14) (st' := [.ref 285, .int 15, .ref s]) rfl rfl rfl rfl ?_
    refine ax_get rfl (hh_285 _ _ _) rfl rfl rfl ?_
    show am_ex d 181 17 [some (.ref 285), some (.ref s), some (.int (nI j))] [.ref 297, .int 15, .ref s] (am_hh X S L) _
    refine ax_s (pc' := 18) (st' := [.int (nI j), .ref 297, .int 15, .ref s]) rfl rfl rfl rfl ?_
    refine ax_ald (j := j) (v := (S 297 j)) rfl (hh_297 _ _ _) rfl rfl (by omega) (by decide) rfl ?_
    refine ax_s (pc' := 20) (st' := [.int (15 + (S 297 j)), .ref s]) rfl rfl rfl rfl ?_
    refine ax_ald (j := (15 + r)) (v := (S s (15 + r))) rfl (isT_eq hs _ _ _) (isT_in hs _ _ _) (am_na (x := 15) (y := r) rfl er) (by omega) (by decide) rfl ?_
    refine ax_if_ne rfl (fun c21 => ?_) (fun c21 => ?_)
    · refine ax_s (pc' := 34) (ls' := [some (.ref 285), some (.ref s), some (.int ((nI j) + 1))]) (st' := []) rfl rfl rfl rfl ?_
      rw [nI_1]
      refine ax_s (pc' := 2) (st' := []) rfl rfl rfl rfl ?_
      have ec : (S 297 j).toNatClampNeg = r := by rw [er]; exact nI_clamp (by omega)
      exact lm_nextWaiting hn hn6 hs hrk k (j + 1) (by omega) (by simpa [m_nx, ec, c21] using hQ)
    · refine ax_s (pc' := 25) (st' := [.ref 285]) rfl rfl rfl rfl ?_
      refine ax_get rfl (hh_285 _ _ _) rfl rfl rfl ?_
      show am_ex d 181 28 [some (.ref 285), some (.ref s), some (.int (nI j))] [.ref 297] (am_hh X S L) _
      refine ax_s (pc' := 29) (st' := [.int (nI j), .ref 297]) rfl rfl rfl rfl ?_
      refine ax_ald (j := j) (v := (S 297 j)) rfl (hh_297 _ _ _) rfl rfl (by omega) (by decide) rfl ?_
      refine ax_r rfl rfl rfl ?_
      have ec : (S 297 j).toNatClampNeg = r := by rw [er]; exact nI_clamp (by omega)
      simpa [m_nx, ec, c21] using hQ
theorem mt_nextWaiting {d : Nat} {X : Nat × (Nat → Int32)} {S : Nat → Nat → Int32} {L : Nat → Int64} {n : Nat} {s : Nat} {Q : Option Value → am_H → Prop} (hn : S 285 7 = nI n) (hn6 : n ≤ 6) (hs : am_isT s) (hrk : ∀ j, j < 6 → ∃ r, r < 6 ∧ S 297 j = nI r)  (hQ : Q (some (.int (m_nx S s n 0))) (am_hh X S L)) : am_mt d 181 [.ref 285, .ref s] (am_hh X S L) Q := by
  refine ax_in (ls := [some (.ref 285), some (.ref s), none]) rfl ?_
  refine ax_s (pc' := 1) (st' := [.int 0]) rfl rfl rfl rfl ?_
  refine ax_s (pc' := 2) (ls' := [some (.ref 285), some (.ref s), some (.int 0)]) (st' := []) rfl rfl rfl rfl ?_
  exact lm_nextWaiting hn hn6 hs hrk n 0 (by omega) hQ
