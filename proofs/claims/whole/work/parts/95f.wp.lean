theorem wl_howMany {d : Nat} {X : Nat × (Nat → Int32)} {S : Nat → Nat → Int32} {L : Nat → Int64} {j : Nat} {a : Int32} {Q : Option Value → am_H → Prop}  (x1 : ¬ 8 ≤ (nI j) → j < 8) (k1 : 8 ≤ (nI j) → Q (some (.int a)) (am_hh X S L)) (k2 : ¬ 8 ≤ (nI j) → (S 17 j) = -1 → am_ex (d + 1) 143 4 [some (.ref 6), some (.int a), some (.int (nI (j + 1)))] [] (am_hh X S L) Q) (k3 : ¬ 8 ≤ (nI j) → ¬ ((S 17 j) = -1) → am_ex (d + 1) 143 4 [some (.ref 6), some (.int (a + 1)), some (.int (nI (j + 1)))] [] (am_hh X S L) Q) : am_ex (d + 1) 143 4 [some (.ref 6), some (.int a), some (.int (nI j))] [] (am_hh X S L) Q := by
  refine ax_s (pc' := 5) (st' := [.int (nI j)]) rfl rfl rfl rfl ?_
  refine ax_s (pc' := 7) (st' := [.int 8, .int (nI j)]) rfl rfl rfl rfl ?_
  refine ax_cmp_ge rfl (fun c1 => ?_) (fun c1 => ?_)
  · refine ax_s (pc' := 28) (st' := [.int a]) rfl rfl rfl rfl ?_
    refine ax_r rfl rfl rfl ?_
    exact k1 c1
  · refine ax_s (pc' := 11) (st' := [.ref 6]) rfl rfl rfl rfl ?_
    refine ax_s (pc' := 12) (st' := [.int (nI j), .ref 6]) rfl rfl rfl rfl ?_
    refine ax_call (vs := [.ref 6, .int (nI j)]) (rr := []) rfl rfl rfl ?_
    refine kt_isMissing rfl (x1 c1) ?_
    show am_ex (d + 1) 143 15 [some (.ref 6), some (.int a), some (.int (nI j))] [.int (bI (decide ((S 17 j) = -1)))] (am_hh X S L) _
    refine ax_pT rfl (fun c2 => ?_) (fun c2 => ?_)
    · refine ax_s (pc' := 24) (ls' := [some (.ref 6), some (.int a), some (.int ((nI j) + 1))]) (st' := []) rfl rfl rfl rfl ?_
      rw [nI_1]
      refine ax_s (pc' := 4) (st' := []) rfl rfl rfl rfl ?_
      exact k2 c1 c2
    · refine ax_s (pc' := 21) (ls' := [some (.ref 6), some (.int (a + 1)), some (.int (nI j))]) (st' := []) rfl rfl rfl rfl ?_
      refine ax_s (pc' := 24) (ls' := [some (.ref 6), some (.int (a + 1)), some (.int ((nI j) + 1))]) (st' := []) rfl rfl rfl rfl ?_
      rw [nI_1]
      refine ax_s (pc' := 4) (st' := []) rfl rfl rfl rfl ?_
      exact k3 c1 c2
theorem wp_howMany {d : Nat} {X : Nat × (Nat → Int32)} {S : Nat → Nat → Int32} {L : Nat → Int64} {Q : Option Value → am_H → Prop}  (k1 : am_ex (d + 1) 143 4 [some (.ref 6), some (.int 0), some (.int 0)] [] (am_hh X S L) Q) : am_mt (d + 1) 143 [.ref 6] (am_hh X S L) Q := by
  refine ax_in (ls := [some (.ref 6), none, none]) rfl ?_
  refine ax_s (pc' := 1) (st' := [.int 0]) rfl rfl rfl rfl ?_
  refine ax_s (pc' := 2) (ls' := [some (.ref 6), some (.int 0), none]) (st' := []) rfl rfl rfl rfl ?_
  refine ax_s (pc' := 3) (st' := [.int 0]) rfl rfl rfl rfl ?_
  refine ax_s (pc' := 4) (ls' := [some (.ref 6), some (.int 0), some (.int 0)]) (st' := []) rfl rfl rfl rfl ?_
  exact k1
theorem wl_rowsThere {d : Nat} {X : Nat × (Nat → Int32)} {S : Nat → Nat → Int32} {L : Nat → Int64} {j : Nat} {a : Int32} {Q : Option Value → am_H → Prop}  (x1 : ¬ 8 ≤ (nI j) → j < 8) (k1 : 8 ≤ (nI j) → Q (some (.int a)) (am_hh X S L)) (k2 : ¬ 8 ≤ (nI j) → 0 ≤ (S 287 j) → am_ex (d + 1) 235 4 [some (.ref 285), some (.int (a + 1)), some (.int (nI (j + 1)))] [] (am_hh X S L) Q) (k3 : ¬ 8 ≤ (nI j) → ¬ 0 ≤ (S 287 j) → am_ex (d + 1) 235 4 [some (.ref 285), some (.int (a + 0)), some (.int (nI (j + 1)))] [] (am_hh X S L) Q) : am_ex (d + 1) 235 4 [some (.ref 285), some (.int a), some (.int (nI j))] [] (am_hh X S L) Q := by
  refine ax_s (pc' := 5) (st' := [.int (nI j)]) rfl rfl rfl rfl ?_
  refine ax_s (pc' := 7) (st' := [.int 8, .int (nI j)]) rfl rfl rfl rfl ?_
  refine ax_cmp_ge rfl (fun c1 => ?_) (fun c1 => ?_)
  · refine ax_s (pc' := 34) (st' := [.int a]) rfl rfl rfl rfl ?_
    refine ax_r rfl rfl rfl ?_
    exact k1 c1
  · refine ax_s (pc' := 11) (st' := [.int a]) rfl rfl rfl rfl ?_
    refine ax_s (pc' := 12) (st' := [.ref 285, .int a]) rfl rfl rfl rfl ?_
    refine ax_get rfl (hh_285 _ _ _) rfl rfl rfl ?_
    show am_ex (d + 1) 235 15 [some (.ref 285), some (.int a), some (.int (nI j))] [.ref 287, .int a] (am_hh X S L) _
    refine ax_s (pc' := 16) (st' := [.int (nI j), .ref 287, .int a]) rfl rfl rfl rfl ?_
    refine ax_ald (j := j) (v := (S 287 j)) rfl (hh_287 _ _ _) rfl rfl (x1 c1) (by decide) rfl ?_
    refine ax_if_ge rfl (fun c2 => ?_) (fun c2 => ?_)
    · refine ax_s (pc' := 25) (st' := [.int 1, .int a]) rfl rfl rfl rfl ?_
      refine ax_s (pc' := 26) (st' := [.int (a + 1)]) rfl rfl rfl rfl ?_
      refine ax_s (pc' := 27) (ls' := [some (.ref 285), some (.int (a + 1)), some (.int (nI j))]) (st' := []) rfl rfl rfl rfl ?_
      refine ax_s (pc' := 30) (ls' := [some (.ref 285), some (.int (a + 1)), some (.int ((nI j) + 1))]) (st' := []) rfl rfl rfl rfl ?_
      rw [nI_1]
      refine ax_s (pc' := 4) (st' := []) rfl rfl rfl rfl ?_
      exact k2 c1 c2
    · refine ax_s (pc' := 21) (st' := [.int 0, .int a]) rfl rfl rfl rfl ?_
      refine ax_s (pc' := 25) (st' := [.int 0, .int a]) rfl rfl rfl rfl ?_
      refine ax_s (pc' := 26) (st' := [.int (a + 0)]) rfl rfl rfl rfl ?_
      refine ax_s (pc' := 27) (ls' := [some (.ref 285), some (.int (a + 0)), some (.int (nI j))]) (st' := []) rfl rfl rfl rfl ?_
      refine ax_s (pc' := 30) (ls' := [some (.ref 285), some (.int (a + 0)), some (.int ((nI j) + 1))]) (st' := []) rfl rfl rfl rfl ?_
      rw [nI_1]
      refine ax_s (pc' := 4) (st' := []) rfl rfl rfl rfl ?_
      exact k3 c1 c2
theorem wp_rowsThere {d : Nat} {X : Nat × (Nat → Int32)} {S : Nat → Nat → Int32} {L : Nat → Int64} {Q : Option Value → am_H → Prop}  (k1 : am_ex (d + 1) 235 4 [some (.ref 285), some (.int 0), some (.int 0)] [] (am_hh X S L) Q) : am_mt (d + 1) 235 [.ref 285] (am_hh X S L) Q := by
  refine ax_in (ls := [some (.ref 285), none, none]) rfl ?_
  refine ax_s (pc' := 1) (st' := [.int 0]) rfl rfl rfl rfl ?_
  refine ax_s (pc' := 2) (ls' := [some (.ref 285), some (.int 0), none]) (st' := []) rfl rfl rfl rfl ?_
  refine ax_s (pc' := 3) (st' := [.int 0]) rfl rfl rfl rfl ?_
  refine ax_s (pc' := 4) (ls' := [some (.ref 285), some (.int 0), some (.int 0)]) (st' := []) rfl rfl rfl rfl ?_
  exact k1
theorem wl_mballast {d : Nat} {X : Nat × (Nat → Int32)} {S : Nat → Nat → Int32} {L : Nat → Int64} {j : Nat} {a : Int32} {Q : Option Value → am_H → Prop}  (x1 : ¬ (S 285 8) ≤ (nI j) → (3 + j) < 39) (k1 : (S 285 8) ≤ (nI j) → Q (some (.int a)) (am_hh X S L)) (k2 : ¬ (S 285 8) ≤ (nI j) → am_ex (d + 1) 236 4 [some (.ref 285), some (.int (a + (S 293 (3 + j)))), some (.int (nI (j + 1)))] [] (am_hh X S L) Q) : am_ex (d + 1) 236 4 [some (.ref 285), some (.int a), some (.int (nI j))] [] (am_hh X S L) Q := by
  refine ax_s (pc' := 5) (st' := [.int (nI j)]) rfl rfl rfl rfl ?_
  refine ax_s (pc' := 6) (st' := [.ref 285, .int (nI j)]) rfl rfl rfl rfl ?_
  refine ax_get rfl (hh_285 _ _ _) rfl rfl rfl ?_
  show am_ex (d + 1) 236 9 [some (.ref 285), some (.int a), some (.int (nI j))] [.int (S 285 8), .int (nI j)] (am_hh X S L) _
  refine ax_cmp_ge rfl (fun c1 => ?_) (fun c1 => ?_)
  · refine ax_s (pc' := 30) (st' := [.int a]) rfl rfl rfl rfl ?_
    refine ax_r rfl rfl rfl ?_
    exact k1 c1
  · refine ax_s (pc' := 13) (st' := [.int a]) rfl rfl rfl rfl ?_
    refine ax_s (pc' := 14) (st' := [.ref 285, .int a]) rfl rfl rfl rfl ?_
    refine ax_get rfl (hh_285 _ _ _) rfl rfl rfl ?_
    show am_ex (d + 1) 236 17 [some (.ref 285), some (.int a), some (.int (nI j))] [.ref 293, .int a] (am_hh X S L) _
    refine ax_s (pc' := 18) (st' := [.int 3, .ref 293, .int a]) rfl rfl rfl rfl ?_
    refine ax_s (pc' := 19) (st' := [.int (nI j), .int 3, .ref 293, .int a]) rfl rfl rfl rfl ?_
    refine ax_s (pc' := 20) (st' := [.int (3 + (nI j)), .ref 293, .int a]) rfl rfl rfl rfl ?_
    refine ax_ald (j := (3 + j)) (v := (S 293 (3 + j))) rfl (hh_293 _ _ _) rfl (am_na (x := 3) (y := j) rfl rfl) (x1 c1) (by decide) rfl ?_
    refine ax_s (pc' := 22) (st' := [.int (a + (S 293 (3 + j)))]) rfl rfl rfl rfl ?_
    refine ax_s (pc' := 23) (ls' := [some (.ref 285), some (.int (a + (S 293 (3 + j)))), some (.int (nI j))]) (st' := []) rfl rfl rfl rfl ?_
    refine ax_s (pc' := 26) (ls' := [some (.ref 285), some (.int (a + (S 293 (3 + j)))), some (.int ((nI j) + 1))]) (st' := []) rfl rfl rfl rfl ?_
    rw [nI_1]
    refine ax_s (pc' := 4) (st' := []) rfl rfl rfl rfl ?_
    exact k2 c1
theorem wp_mballast {d : Nat} {X : Nat × (Nat → Int32)} {S : Nat → Nat → Int32} {L : Nat → Int64} {Q : Option Value → am_H → Prop}  (k1 : am_ex (d + 1) 236 4 [some (.ref 285), some (.int 0), some (.int 0)] [] (am_hh X S L) Q) : am_mt (d + 1) 236 [.ref 285] (am_hh X S L) Q := by
  refine ax_in (ls := [some (.ref 285), none, none]) rfl ?_
  refine ax_s (pc' := 1) (st' := [.int 0]) rfl rfl rfl rfl ?_
  refine ax_s (pc' := 2) (ls' := [some (.ref 285), some (.int 0), none]) (st' := []) rfl rfl rfl rfl ?_
  refine ax_s (pc' := 3) (st' := [.int 0]) rfl rfl rfl rfl ?_
  refine ax_s (pc' := 4) (ls' := [some (.ref 285), some (.int 0), some (.int 0)]) (st' := []) rfl rfl rfl rfl ?_
  exact k1
