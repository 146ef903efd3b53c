theorem mt_in {d : Nat} {X : Nat × (Nat → Int32)} {S : Nat → Nat → Int32} {L : Nat → Int64} {a p q : Int32} {Q : Option Value → am_H → Prop}  (hQ : Q (some (.int (bI (decide (¬ a < p ∧ ¬ q < a))))) (am_hh X S L)) : am_mt d 150 [.int a, .int p, .int q] (am_hh X S L) Q := by
  refine ax_in (ls := [some (.int a), some (.int p), some (.int q)]) rfl ?_
  refine ax_s (pc' := 1) (st' := [.int a]) rfl rfl rfl rfl ?_
  refine ax_s (pc' := 2) (st' := [.int p, .int a]) rfl rfl rfl rfl ?_
  refine ax_cmp_lt rfl (fun c2 => ?_) (fun c2 => ?_)
  · refine ax_s (pc' := 15) (st' := [.int 0]) rfl rfl rfl rfl ?_
    refine ax_rb (b := false) rfl rfl ?_
    simpa [bI, c2] using hQ
  · refine ax_s (pc' := 6) (st' := [.int a]) rfl rfl rfl rfl ?_
    refine ax_s (pc' := 7) (st' := [.int q, .int a]) rfl rfl rfl rfl ?_
    refine ax_cmp_gt rfl (fun c7 => ?_) (fun c7 => ?_)
    · refine ax_s (pc' := 15) (st' := [.int 0]) rfl rfl rfl rfl ?_
      refine ax_rb (b := false) rfl rfl ?_
      simpa [bI, c2, c7] using hQ
    · refine ax_s (pc' := 11) (st' := [.int 1]) rfl rfl rfl rfl ?_
      refine ax_s (pc' := 15) (st' := [.int 1]) rfl rfl rfl rfl ?_
      refine ax_rb (b := true) rfl rfl ?_
      simpa [bI, c2, c7] using hQ
theorem mt_isParty {d : Nat} {X : Nat × (Nat → Int32)} {S : Nat → Nat → Int32} {L : Nat → Int64} {p : Int32} {Q : Option Value → am_H → Prop}  (hQ : Q (some (.int (bI (decide (¬ p < 0 ∧ ¬ S 285 7 - 1 < p))))) (am_hh X S L)) : am_mt (d + 1) 189 [.ref 285, .int p] (am_hh X S L) Q := by
  refine ax_in (ls := [some (.ref 285), some (.int p)]) rfl ?_
  refine ax_s (pc' := 1) (st' := [.int p]) rfl rfl rfl rfl ?_
  refine ax_s (pc' := 2) (st' := [.int 0, .int p]) rfl rfl rfl rfl ?_
  refine ax_s (pc' := 3) (st' := [.ref 285, .int 0, .int p]) rfl rfl rfl rfl ?_
  refine ax_get rfl (hh_285 _ _ _) rfl rfl rfl ?_
  show am_ex (d + 1) 189 6 [some (.ref 285), some (.int p)] [.int (S 285 7), .int 0, .int p] (am_hh X S L) _
  refine ax_s (pc' := 7) (st' := [.int 1, .int (S 285 7), .int 0, .int p]) rfl rfl rfl rfl ?_
  refine ax_s (pc' := 8) (st' := [.int ((S 285 7) - 1), .int 0, .int p]) rfl rfl rfl rfl ?_
  refine ax_call (vs := [.int p, .int 0, .int ((S 285 7) - 1)]) (rr := []) rfl rfl rfl ?_
  refine mt_in ?_
  show am_ex (d + 1) 189 11 [some (.ref 285), some (.int p)] [.int (bI (decide (¬ p < 0 ∧ ¬ ((S 285 7) - 1) < p)))] (am_hh X S L) _
  refine ax_rb rfl rfl ?_
  exact hQ
theorem mt_isGondola {d : Nat} {X : Nat × (Nat → Int32)} {S : Nat → Nat → Int32} {L : Nat → Int64} {p : Int32} {Q : Option Value → am_H → Prop}  (hQ : Q (some (.int (bI (decide (¬ p < 0 ∧ ¬ S 285 8 - 1 < p))))) (am_hh X S L)) : am_mt (d + 1) 185 [.ref 285, .int p] (am_hh X S L) Q := by
  refine ax_in (ls := [some (.ref 285), some (.int p)]) rfl ?_
  refine ax_s (pc' := 1) (st' := [.int p]) rfl rfl rfl rfl ?_
  refine ax_s (pc' := 2) (st' := [.int 0, .int p]) rfl rfl rfl rfl ?_
  refine ax_s (pc' := 3) (st' := [.ref 285, .int 0, .int p]) rfl rfl rfl rfl ?_
  refine ax_get rfl (hh_285 _ _ _) rfl rfl rfl ?_
  show am_ex (d + 1) 185 6 [some (.ref 285), some (.int p)] [.int (S 285 8), .int 0, .int p] (am_hh X S L) _
  refine ax_s (pc' := 7) (st' := [.int 1, .int (S 285 8), .int 0, .int p]) rfl rfl rfl rfl ?_
  refine ax_s (pc' := 8) (st' := [.int ((S 285 8) - 1), .int 0, .int p]) rfl rfl rfl rfl ?_
  refine ax_call (vs := [.int p, .int 0, .int ((S 285 8) - 1)]) (rr := []) rfl rfl rfl ?_
  refine mt_in ?_
  show am_ex (d + 1) 185 11 [some (.ref 285), some (.int p)] [.int (bI (decide (¬ p < 0 ∧ ¬ ((S 285 8) - 1) < p)))] (am_hh X S L) _
  refine ax_rb rfl rfl ?_
  exact hQ
theorem mt_isNone {d : Nat} {X : Nat × (Nat → Int32)} {S : Nat → Nat → Int32} {L : Nat → Int64} {Q : Option Value → am_H → Prop}  (hQ : Q (some (.int (bI (decide (S 285 8 = 0))))) (am_hh X S L)) : am_mt d 171 [.ref 285] (am_hh X S L) Q := by
  refine ax_in (ls := [some (.ref 285)]) rfl ?_
  refine ax_s (pc' := 1) (st' := [.ref 285]) rfl rfl rfl rfl ?_
  refine ax_get rfl (hh_285 _ _ _) rfl rfl rfl ?_
  show am_ex d 171 4 [some (.ref 285)] [.int (S 285 8)] (am_hh X S L) _
  refine ax_if_ne rfl (fun c4 => ?_) (fun c4 => ?_)
  · refine ax_s (pc' := 12) (st' := [.int 0]) rfl rfl rfl rfl ?_
    refine ax_rb (b := false) rfl rfl ?_
    simpa [bI, c4] using hQ
  · refine ax_s (pc' := 8) (st' := [.int 1]) rfl rfl rfl rfl ?_
    refine ax_s (pc' := 12) (st' := [.int 1]) rfl rfl rfl rfl ?_
    refine ax_rb (b := true) rfl rfl ?_
    simpa [bI, c4] using hQ
theorem mt_off {d : Nat} {X : Nat × (Nat → Int32)} {S : Nat → Nat → Int32} {L : Nat → Int64} {p : Int32} {Q : Option Value → am_H → Prop}  (hQ : Q (some (.int (w_abs p))) (am_hh X S L)) : am_mt d 180 [.int p] (am_hh X S L) Q := by
  refine ax_in (ls := [some (.int p)]) rfl ?_
  refine ax_s (pc' := 1) (st' := [.int p]) rfl rfl rfl rfl ?_
  refine ax_if_ge rfl (fun c1 => ?_) (fun c1 => ?_)
  · refine ax_s (pc' := 10) (st' := [.int p]) rfl rfl rfl rfl ?_
    refine ax_r rfl rfl rfl ?_
    simpa [w_abs, c1] using hQ
  · refine ax_s (pc' := 5) (st' := [.int p]) rfl rfl rfl rfl ?_
    refine ax_s (pc' := 6) (st' := [.int (-p)]) rfl rfl rfl rfl ?_
    refine ax_s (pc' := 10) (st' := [.int (-p)]) rfl rfl rfl rfl ?_
    refine ax_r rfl rfl rfl ?_
    simpa [w_abs, c1] using hQ
theorem mt_pull {d : Nat} {X : Nat × (Nat → Int32)} {S : Nat → Nat → Int32} {L : Nat → Int64} {p : Int32} {Q : Option Value → am_H → Prop}  (hQ : Q (some (.int (m_pull (S 285 8) p))) (am_hh X S L)) : am_mt d 179 [.ref 285, .int p] (am_hh X S L) Q := by
  refine ax_in (ls := [some (.ref 285), some (.int p), none]) rfl ?_
  refine ax_s (pc' := 1) (st' := [.ref 285]) rfl rfl rfl rfl ?_
  refine ax_get rfl (hh_285 _ _ _) rfl rfl rfl ?_
  show am_ex d 179 4 [some (.ref 285), some (.int p), none] [.int (S 285 8)] (am_hh X S L) _
  refine ax_s (pc' := 5) (st' := [.int p, .int (S 285 8)]) rfl rfl rfl rfl ?_
  refine ax_s (pc' := 6) (st' := [.int ((S 285 8) - p)]) rfl rfl rfl rfl ?_
  refine ax_s (pc' := 7) (ls' := [some (.ref 285), some (.int p), some (.int ((S 285 8) - p))]) (st' := []) rfl rfl rfl rfl ?_
  refine ax_s (pc' := 8) (st' := [.int 2]) rfl rfl rfl rfl ?_
  refine ax_s (pc' := 9) (st' := [.int p, .int 2]) rfl rfl rfl rfl ?_
  refine ax_s (pc' := 10) (st' := [.int (2 * p)]) rfl rfl rfl rfl ?_
  refine ax_s (pc' := 11) (st' := [.ref 285, .int (2 * p)]) rfl rfl rfl rfl ?_
  refine ax_get rfl (hh_285 _ _ _) rfl rfl rfl ?_
  show am_ex d 179 14 [some (.ref 285), some (.int p), some (.int ((S 285 8) - p))] [.int (S 285 8), .int (2 * p)] (am_hh X S L) _
  refine ax_cmp_gt rfl (fun c14 => ?_) (fun c14 => ?_)
  · refine ax_s (pc' := 31) (st' := [.int ((S 285 8) - p)]) rfl rfl rfl rfl ?_
    refine ax_s (pc' := 32) (st' := [.int (-((S 285 8) - p))]) rfl rfl rfl rfl ?_
    refine ax_s (pc' := 33) (st' := [.ref 285, .int (-((S 285 8) - p))]) rfl rfl rfl rfl ?_
    refine ax_get rfl (hh_285 _ _ _) rfl rfl rfl ?_
    show am_ex d 179 36 [some (.ref 285), some (.int p), some (.int ((S 285 8) - p))] [.int (S 285 8), .int (-((S 285 8) - p))] (am_hh X S L) _
    refine ax_s (pc' := 37) (st' := [.int 2, .int (S 285 8), .int (-((S 285 8) - p))]) rfl rfl rfl rfl ?_
    refine ax_s (pc' := 38) (st' := [.int ((S 285 8) - p), .int 2, .int (S 285 8), .int (-((S 285 8) - p))]) rfl rfl rfl rfl ?_
    refine ax_s (pc' := 39) (st' := [.int (2 * ((S 285 8) - p)), .int (S 285 8), .int (-((S 285 8) - p))]) rfl rfl rfl rfl ?_
    refine ax_s (pc' := 40) (st' := [.int ((S 285 8) - (2 * ((S 285 8) - p))), .int (-((S 285 8) - p))]) rfl rfl rfl rfl ?_
    refine ax_s (pc' := 41) (st' := [.int ((-((S 285 8) - p)) * ((S 285 8) - (2 * ((S 285 8) - p))))]) rfl rfl rfl rfl ?_
    refine ax_r rfl rfl rfl ?_
    simpa [m_pull, c14] using hQ
  · refine ax_s (pc' := 18) (st' := [.int p]) rfl rfl rfl rfl ?_
    refine ax_s (pc' := 19) (st' := [.ref 285, .int p]) rfl rfl rfl rfl ?_
    refine ax_get rfl (hh_285 _ _ _) rfl rfl rfl ?_
    show am_ex d 179 22 [some (.ref 285), some (.int p), some (.int ((S 285 8) - p))] [.int (S 285 8), .int p] (am_hh X S L) _
    refine ax_s (pc' := 23) (st' := [.int 2, .int (S 285 8), .int p]) rfl rfl rfl rfl ?_
    refine ax_s (pc' := 24) (st' := [.int p, .int 2, .int (S 285 8), .int p]) rfl rfl rfl rfl ?_
    refine ax_s (pc' := 25) (st' := [.int (2 * p), .int (S 285 8), .int p]) rfl rfl rfl rfl ?_
    refine ax_s (pc' := 26) (st' := [.int ((S 285 8) - (2 * p)), .int p]) rfl rfl rfl rfl ?_
    refine ax_s (pc' := 27) (st' := [.int (p * ((S 285 8) - (2 * p)))]) rfl rfl rfl rfl ?_
    refine ax_s (pc' := 41) (st' := [.int (p * ((S 285 8) - (2 * p)))]) rfl rfl rfl rfl ?_
    refine ax_r rfl rfl rfl ?_
    simpa [m_pull, c14] using hQ
theorem mt_placeOf {d : Nat} {X : Nat × (Nat → Int32)} {S : Nat → Nat → Int32} {L : Nat → Int64} {p q : Int32} {Q : Option Value → am_H → Prop} (hne : ¬ S 285 8 = 0)  (hQ : Q (some (.int (m_pl (S 285 8) p q))) (am_hh X S L)) : am_mt d 178 [.ref 285, .int p, .int q] (am_hh X S L) Q := by
  refine ax_in (ls := [some (.ref 285), some (.int p), some (.int q)]) rfl ?_
  refine ax_s (pc' := 1) (st' := [.int p]) rfl rfl rfl rfl ?_
  refine ax_s (pc' := 2) (st' := [.int q, .int p]) rfl rfl rfl rfl ?_
  refine ax_s (pc' := 3) (st' := [.int (p - q)]) rfl rfl rfl rfl ?_
  refine ax_s (pc' := 4) (st' := [.ref 285, .int (p - q)]) rfl rfl rfl rfl ?_
  refine ax_get rfl (hh_285 _ _ _) rfl rfl rfl ?_
  show am_ex d 178 7 [some (.ref 285), some (.int p), some (.int q)] [.int (S 285 8), .int (p - q)] (am_hh X S L) _
  refine ax_s (pc' := 8) (st' := [.int ((p - q) + (S 285 8))]) rfl rfl rfl rfl ?_
  refine ax_s (pc' := 9) (st' := [.ref 285, .int ((p - q) + (S 285 8))]) rfl rfl rfl rfl ?_
  refine ax_get rfl (hh_285 _ _ _) rfl rfl rfl ?_
  show am_ex d 178 12 [some (.ref 285), some (.int p), some (.int q)] [.int (S 285 8), .int ((p - q) + (S 285 8))] (am_hh X S L) _
  refine ax_irem rfl hne ?_
  refine ax_r rfl rfl rfl ?_
  exact hQ
theorem lm_lean2 {d : Nat} {X : Nat × (Nat → Int32)} {S : Nat → Nat → Int32} {L : Nat → Int64} {n : Nat} {g : Nat} {s : Nat} {q : Int32} {Q : Option Value → am_H → Prop} (hn : S 285 7 = nI n) (hn6 : n ≤ 6) (hg : S 285 8 = nI g) (hg4 : 4 ≤ g) (hg12 : g ≤ 12) (hs : am_isT s)  : ∀ (k j : Nat) (a : Int32), j + k = n → Q (some (.int (m_ln2 S s q k j a))) (am_hh X S L) → am_ex (d + 1) 177 44 [some (.ref 285), some (.ref s), some (.int q), some (.int a), some (.int (nI j))] [] (am_hh X S L) Q
  | 0, j, a, hj, hQ => by
    refine ax_s (pc' := 46) (st' := [.int (nI j)]) rfl rfl rfl rfl ?_
    refine ax_s (pc' := 47) (st' := [.ref 285, .int (nI j)]) rfl rfl rfl rfl ?_
    refine ax_get rfl (hh_285 _ _ _) rfl rfl rfl ?_
    show am_ex (d + 1) 177 50 [some (.ref 285), some (.ref s), some (.int q), some (.int a), some (.int (nI j))] [.int (S 285 7), .int (nI j)] (am_hh X S L) _
    refine ax_cmp_ge rfl (fun c50 => ?_) (fun c50 => absurd (by rw [hn]; exact nI_le (by omega) (by omega)) c50)
    refine ax_s (pc' := 102) (st' := [.int a]) rfl rfl rfl rfl ?_
    refine ax_r rfl rfl rfl ?_
    exact hQ
  | k + 1, j, a, hj, hQ => by
    refine ax_s (pc' := 46) (st' := [.int (nI j)]) rfl rfl rfl rfl ?_
    refine ax_s (pc' := 47) (st' := [.ref 285, .int (nI j)]) rfl rfl rfl rfl ?_
    refine ax_get rfl (hh_285 _ _ _) rfl rfl rfl ?_
    show am_ex (d + 1) 177 50 [some (.ref 285), some (.ref s), some (.int q), some (.int a), some (.int (nI j))] [.int (S 285 7), .int (nI j)] (am_hh X S L) _
    refine ax_cmp_ge rfl (fun c50 => absurd c50 (by rw [hn]; exact nI_ge (by omega) (by omega))) (fun c50 => ?_)
    refine ax_s (pc' := 54) (st' := [.int a]) rfl rfl rfl rfl ?_
    refine ax_s (pc' := 55) (st' := [.ref s, .int a]) rfl rfl rfl rfl ?_
    refine ax_s (pc' := 57) (st' := [.int 15, .ref s, .int a]) rfl rfl rfl rfl ?_
    refine ax_s (pc' := 59) (st' := [.int (nI j), .int 15, .ref s, .int a]) rfl rfl rfl rfl ?_
    refine ax_s (pc' := 60) (st' := [.int (15 + (nI j)), .ref s, .int a]) rfl rfl rfl rfl ?_
    refine ax_ald (j := (15 + j)) (v := (S s (15 + j))) rfl (isT_eq hs _ _ _) (isT_in hs _ _ _) (am_na (x := 15) (y := j) rfl rfl) (by omega) (by decide) rfl ?_
    refine ax_s (pc' := 62) (st' := [.int 1, .int (S s (15 + j)), .int a]) rfl rfl rfl rfl ?_
    refine ax_cmp_ne rfl (fun c62 => ?_) (fun c62 => ?_)
    · refine ax_s (pc' := 93) (st' := [.int 0, .int a]) rfl rfl rfl rfl ?_
      refine ax_s (pc' := 94) (st' := [.int (a + 0)]) rfl rfl rfl rfl ?_
      refine ax_s (pc' := 95) (ls' := [some (.ref 285), some (.ref s), some (.int q), some (.int (a + 0)), some (.int (nI j))]) (st' := []) rfl rfl rfl rfl ?_
      refine ax_s (pc' := 98) (ls' := [some (.ref 285), some (.ref s), some (.int q), some (.int (a + 0)), some (.int ((nI j) + 1))]) (st' := []) rfl rfl rfl rfl ?_
      rw [nI_1]
      refine ax_s (pc' := 44) (st' := []) rfl rfl rfl rfl ?_
      exact lm_lean2 hn hn6 hg hg4 hg12 hs k (j + 1) _ (by omega) (by simpa [m_ln2, c50, c62] using hQ)
    · refine ax_s (pc' := 66) (st' := [.ref 285, .int a]) rfl rfl rfl rfl ?_
      refine ax_get rfl (hh_285 _ _ _) rfl rfl rfl ?_
      show am_ex (d + 1) 177 69 [some (.ref 285), some (.ref s), some (.int q), some (.int a), some (.int (nI j))] [.ref 291, .int a] (am_hh X S L) _
      refine ax_s (pc' := 71) (st' := [.int (nI j), .ref 291, .int a]) rfl rfl rfl rfl ?_
      refine ax_ald (j := j) (v := (S 291 j)) rfl (hh_291 _ _ _) rfl rfl (by omega) (by decide) rfl ?_
      refine ax_s (pc' := 73) (st' := [.ref 285, .int (S 291 j), .int a]) rfl rfl rfl rfl ?_
      refine ax_s (pc' := 74) (st' := [.ref 285, .ref 285, .int (S 291 j), .int a]) rfl rfl rfl rfl ?_
      refine ax_s (pc' := 75) (st' := [.ref s, .ref 285, .ref 285, .int (S 291 j), .int a]) rfl rfl rfl rfl ?_
      refine ax_s (pc' := 77) (st' := [.int 21, .ref s, .ref 285, .ref 285, .int (S 291 j), .int a]) rfl rfl rfl rfl ?_
      refine ax_s (pc' := 79) (st' := [.int (nI j), .int 21, .ref s, .ref 285, .ref 285, .int (S 291 j), .int a]) rfl rfl rfl rfl ?_
      refine ax_s (pc' := 80) (st' := [.int (21 + (nI j)), .ref s, .ref 285, .ref 285, .int (S 291 j), .int a]) rfl rfl rfl rfl ?_
      refine ax_ald (j := (21 + j)) (v := (S s (21 + j))) rfl (isT_eq hs _ _ _) (isT_in hs _ _ _) (am_na (x := 21) (y := j) rfl rfl) (by omega) (by decide) rfl ?_
      refine ax_s (pc' := 82) (st' := [.int q, .int (S s (21 + j)), .ref 285, .ref 285, .int (S 291 j), .int a]) rfl rfl rfl rfl ?_
      refine ax_call (vs := [.ref 285, .int (S s (21 + j)), .int q]) (rr := [.ref 285, .int (S 291 j), .int a]) rfl rfl rfl ?_
      refine mt_placeOf (show ¬ S 285 8 = 0 by rw [hg]; exact nI_ne0 (by omega) (by omega)) ?_
      show am_ex (d + 1) 177 85 [some (.ref 285), some (.ref s), some (.int q), some (.int a), some (.int (nI j))] [.int (m_pl (S 285 8) (S s (21 + j)) q), .ref 285, .int (S 291 j), .int a] (am_hh X S L) _
      refine ax_call (vs := [.ref 285, .int (m_pl (S 285 8) (S s (21 + j)) q)]) (rr := [.int (S 291 j), .int a]) rfl rfl rfl ?_
      refine mt_pull ?_
      show am_ex (d + 1) 177 88 [some (.ref 285), some (.ref s), some (.int q), some (.int a), some (.int (nI j))] [.int (m_pull (S 285 8) (m_pl (S 285 8) (S s (21 + j)) q)), .int (S 291 j), .int a] (am_hh X S L) _
      refine ax_s (pc' := 89) (st' := [.int ((S 291 j) * (m_pull (S 285 8) (m_pl (S 285 8) (S s (21 + j)) q))), .int a]) rfl rfl rfl rfl ?_
      refine ax_s (pc' := 93) (st' := [.int ((S 291 j) * (m_pull (S 285 8) (m_pl (S 285 8) (S s (21 + j)) q))), .int a]) rfl rfl rfl rfl ?_
      refine ax_s (pc' := 94) (st' := [.int (a + ((S 291 j) * (m_pull (S 285 8) (m_pl (S 285 8) (S s (21 + j)) q))))]) rfl rfl rfl rfl ?_
      refine ax_s (pc' := 95) (ls' := [some (.ref 285), some (.ref s), some (.int q), some (.int (a + ((S 291 j) * (m_pull (S 285 8) (m_pl (S 285 8) (S s (21 + j)) q))))), some (.int (nI j))]) (st' := []) rfl rfl rfl rfl ?_
      refine ax_s (pc' := 98) (ls' := [some (.ref 285), some (.ref s), some (.int q), some (.int (a + ((S 291 j) * (m_pull (S 285 8) (m_pl (S 285 8) (S s (21 + j)) q))))), some (.int ((nI j) + 1))]) (st' := []) rfl rfl rfl rfl ?_
      rw [nI_1]
      refine ax_s (pc' := 44) (st' := []) rfl rfl rfl rfl ?_
      exact lm_lean2 hn hn6 hg hg4 hg12 hs k (j + 1) _ (by omega) (by simpa [m_ln2, c50, c62] using hQ)
theorem lm_lean1 {d : Nat} {X : Nat × (Nat → Int32)} {S : Nat → Nat → Int32} {L : Nat → Int64} {n : Nat} {g : Nat} {s : Nat} {q : Int32} {Q : Option Value → am_H → Prop} (hn : S 285 7 = nI n) (hn6 : n ≤ 6) (hg : S 285 8 = nI g) (hg4 : 4 ≤ g) (hg12 : g ≤ 12) (hs : am_isT s)  : ∀ (k j : Nat) (a : Int32), j + k = g → Q (some (.int (m_ln2 S s q n 0 (m_ln1 S s q k j a)))) (am_hh X S L) → am_ex (d + 1) 177 5 [some (.ref 285), some (.ref s), some (.int q), some (.int a), some (.int (nI j))] [] (am_hh X S L) Q
  | 0, j, a, hj, hQ => by
    refine ax_s (pc' := 7) (st' := [.int (nI j)]) rfl rfl rfl rfl ?_
    refine ax_s (pc' := 8) (st' := [.ref 285, .int (nI j)]) rfl rfl rfl rfl ?_
    refine ax_get rfl (hh_285 _ _ _) rfl rfl rfl ?_
    show am_ex (d + 1) 177 11 [some (.ref 285), some (.ref s), some (.int q), some (.int a), some (.int (nI j))] [.int (S 285 8), .int (nI j)] (am_hh X S L) _
    refine ax_cmp_ge rfl (fun c11 => ?_) (fun c11 => absurd (by rw [hg]; exact nI_le (by omega) (by omega)) c11)
    refine ax_s (pc' := 42) (st' := [.int 0]) rfl rfl rfl rfl ?_
    refine ax_s (pc' := 44) (ls' := [some (.ref 285), some (.ref s), some (.int q), some (.int a), some (.int 0)]) (st' := []) rfl rfl rfl rfl ?_
    exact lm_lean2 hn hn6 hg hg4 hg12 hs n 0 _ (by omega) hQ
  | k + 1, j, a, hj, hQ => by
    refine ax_s (pc' := 7) (st' := [.int (nI j)]) rfl rfl rfl rfl ?_
    refine ax_s (pc' := 8) (st' := [.ref 285, .int (nI j)]) rfl rfl rfl rfl ?_
    refine ax_get rfl (hh_285 _ _ _) rfl rfl rfl ?_
    show am_ex (d + 1) 177 11 [some (.ref 285), some (.ref s), some (.int q), some (.int a), some (.int (nI j))] [.int (S 285 8), .int (nI j)] (am_hh X S L) _
    refine ax_cmp_ge rfl (fun c11 => absurd c11 (by rw [hg]; exact nI_ge (by omega) (by omega))) (fun c11 => ?_)
    refine ax_s (pc' := 15) (st' := [.int a]) rfl rfl rfl rfl ?_
    refine ax_s (pc' := 16) (st' := [.ref s, .int a]) rfl rfl rfl rfl ?_
    refine ax_s (pc' := 17) (st' := [.int 3, .ref s, .int a]) rfl rfl rfl rfl ?_
    refine ax_s (pc' := 19) (st' := [.int (nI j), .int 3, .ref s, .int a]) rfl rfl rfl rfl ?_
    refine ax_s (pc' := 20) (st' := [.int (3 + (nI j)), .ref s, .int a]) rfl rfl rfl rfl ?_
    refine ax_ald (j := (3 + j)) (v := (S s (3 + j))) rfl (isT_eq hs _ _ _) (isT_in hs _ _ _) (am_na (x := 3) (y := j) rfl rfl) (by omega) (by decide) rfl ?_
    refine ax_s (pc' := 22) (st' := [.ref 285, .int (S s (3 + j)), .int a]) rfl rfl rfl rfl ?_
    refine ax_s (pc' := 23) (st' := [.ref 285, .ref 285, .int (S s (3 + j)), .int a]) rfl rfl rfl rfl ?_
    refine ax_s (pc' := 25) (st' := [.int (nI j), .ref 285, .ref 285, .int (S s (3 + j)), .int a]) rfl rfl rfl rfl ?_
    refine ax_s (pc' := 26) (st' := [.int q, .int (nI j), .ref 285, .ref 285, .int (S s (3 + j)), .int a]) rfl rfl rfl rfl ?_
    refine ax_call (vs := [.ref 285, .int (nI j), .int q]) (rr := [.ref 285, .int (S s (3 + j)), .int a]) rfl rfl rfl ?_
    refine mt_placeOf (show ¬ S 285 8 = 0 by rw [hg]; exact nI_ne0 (by omega) (by omega)) ?_
    show am_ex (d + 1) 177 29 [some (.ref 285), some (.ref s), some (.int q), some (.int a), some (.int (nI j))] [.int (m_pl (S 285 8) (nI j) q), .ref 285, .int (S s (3 + j)), .int a] (am_hh X S L) _
    refine ax_call (vs := [.ref 285, .int (m_pl (S 285 8) (nI j) q)]) (rr := [.int (S s (3 + j)), .int a]) rfl rfl rfl ?_
    refine mt_pull ?_
    show am_ex (d + 1) 177 32 [some (.ref 285), some (.ref s), some (.int q), some (.int a), some (.int (nI j))] [.int (m_pull (S 285 8) (m_pl (S 285 8) (nI j) q)), .int (S s (3 + j)), .int a] (am_hh X S L) _
    refine ax_s (pc' := 33) (st' := [.int ((S s (3 + j)) * (m_pull (S 285 8) (m_pl (S 285 8) (nI j) q))), .int a]) rfl rfl rfl rfl ?_
    refine ax_s (pc' := 34) (st' := [.int (a + ((S s (3 + j)) * (m_pull (S 285 8) (m_pl (S 285 8) (nI j) q))))]) rfl rfl rfl rfl ?_
    refine ax_s (pc' := 35) (ls' := [some (.ref 285), some (.ref s), some (.int q), some (.int (a + ((S s (3 + j)) * (m_pull (S 285 8) (m_pl (S 285 8) (nI j) q))))), some (.int (nI j))]) (st' := []) rfl rfl rfl rfl ?_
    refine ax_s (pc' := 38) (ls' := [some (.ref 285), some (.ref s), some (.int q), some (.int (a + ((S s (3 + j)) * (m_pull (S 285 8) (m_pl (S 285 8) (nI j) q))))), some (.int ((nI j) + 1))]) (st' := []) rfl rfl rfl rfl ?_
    rw [nI_1]
    refine ax_s (pc' := 5) (st' := []) rfl rfl rfl rfl ?_
    exact lm_lean1 hn hn6 hg hg4 hg12 hs k (j + 1) _ (by omega) hQ
theorem mt_leanBy {d : Nat} {X : Nat × (Nat → Int32)} {S : Nat → Nat → Int32} {L : Nat → Int64} {n : Nat} {g : Nat} {s : Nat} {q : Int32} {Q : Option Value → am_H → Prop} (hn : S 285 7 = nI n) (hn6 : n ≤ 6) (hg : S 285 8 = nI g) (hg4 : 4 ≤ g) (hg12 : g ≤ 12) (hs : am_isT s)  (hQ : Q (some (.int (m_lean S s g n q))) (am_hh X S L)) : am_mt (d + 1) 177 [.ref 285, .ref s, .int q] (am_hh X S L) Q := by
  refine ax_in (ls := [some (.ref 285), some (.ref s), some (.int q), none, none]) rfl ?_
  refine ax_s (pc' := 1) (st' := [.int 0]) rfl rfl rfl rfl ?_
  refine ax_s (pc' := 2) (ls' := [some (.ref 285), some (.ref s), some (.int q), some (.int 0), none]) (st' := []) rfl rfl rfl rfl ?_
  refine ax_s (pc' := 3) (st' := [.int 0]) rfl rfl rfl rfl ?_
  refine ax_s (pc' := 5) (ls' := [some (.ref 285), some (.ref s), some (.int q), some (.int 0), some (.int 0)]) (st' := []) rfl rfl rfl rfl ?_
  exact lm_lean1 hn hn6 hg hg4 hg12 hs g 0 0 (by omega) hQ
