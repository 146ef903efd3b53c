theorem wp_byteAt {d : Nat} {X : Nat × (Nat → Int32)} {S : Nat → Nat → Int32} {L : Nat → Int64} {len j : Nat} {Q : Option Value → am_H → Prop} (hl : S 18 2 = nI len)  (x1 : ¬ (nI j) < 0 → ¬ (S 18 2) ≤ (nI j) → j < 100) (k1 : (nI j) < 0 → Q (some (.int (-1))) (am_hh X S L)) (k2 : ¬ (nI j) < 0 → (S 18 2) ≤ (nI j) → Q (some (.int (-1))) (am_hh X S L)) (k3 : ¬ (nI j) < 0 → ¬ (S 18 2) ≤ (nI j) → Q (some (.int (S 19 j))) (am_hh X S L)) : am_mt (d + 1) 32 [.ref 18, .int (nI j)] (am_hh X S L) Q := by
  refine ax_in (ls := [some (.ref 18), some (.int (nI j))]) rfl ?_
  refine ax_s (pc' := 1) (st' := [.int (nI j)]) rfl rfl rfl rfl ?_
  refine ax_if_lt rfl (fun c1 => ?_) (fun c1 => ?_)
  · refine ax_s (pc' := 22) (st' := [.int (-1)]) rfl rfl rfl rfl ?_
    refine ax_r rfl rfl rfl ?_
    exact k1 c1
  · refine ax_s (pc' := 5) (st' := [.int (nI j)]) rfl rfl rfl rfl ?_
    refine ax_s (pc' := 6) (st' := [.ref 18, .int (nI j)]) rfl rfl rfl rfl ?_
    refine ax_get rfl (hh_18 _ _ _) rfl rfl rfl ?_
    show am_ex (d + 1) 32 9 [some (.ref 18), some (.int (nI j))] [.int (S 18 2), .int (nI j)] (am_hh X S L) _
    refine ax_cmp_ge rfl (fun c2 => ?_) (fun c2 => ?_)
    · refine ax_s (pc' := 22) (st' := [.int (-1)]) rfl rfl rfl rfl ?_
      refine ax_r rfl rfl rfl ?_
      exact k2 c1 c2
    · refine ax_s (pc' := 13) (st' := [.ref 18]) rfl rfl rfl rfl ?_
      refine ax_get rfl (hh_18 _ _ _) rfl rfl rfl ?_
      show am_ex (d + 1) 32 16 [some (.ref 18), some (.int (nI j))] [.ref 19] (am_hh X S L) _
      refine ax_s (pc' := 17) (st' := [.int (nI j), .ref 19]) rfl rfl rfl rfl ?_
      refine ax_ald (j := j) (v := (S 19 j)) rfl (hh_19 _ _ _) rfl rfl (x1 c1 c2) (by decide) rfl ?_
      refine ax_s (pc' := 22) (st' := [.int (S 19 j)]) rfl rfl rfl rfl ?_
      refine ax_r rfl rfl rfl ?_
      exact k3 c1 c2
def e_kindOf (S : Nat → Nat → Int32) (x : Int32) : Int32 := (if x = 99 then 5 else (if x = 102 then 1 else (if x = 103 then 3 else (if x = 108 then 2 else (if x = 115 then 4 else 0)))))
theorem w_kindOf {d : Nat} {X : Nat × (Nat → Int32)} {S : Nat → Nat → Int32} {L : Nat → Int64} {x : Int32} {Q : Option Value → am_H → Prop}   (hQ : Q (some (.int (e_kindOf S x))) (am_hh X S L)) : am_mt (d + 1) 39 [.int x] (am_hh X S L) Q := by
  refine ax_in (ls := [some (.int x)]) rfl ?_
  refine ax_s (pc' := 1) (st' := [.int x]) rfl rfl rfl rfl ?_
  by_cases c1 : x = 99
  · refine ax_s (pc' := 60) (ls' := [some (.int x)]) (st' := []) (h1 := (am_hh X S L)) rfl (by rw [c1]; rfl) rfl rfl ?_
    refine ax_s (pc' := 61) (st' := [.int 5]) rfl rfl rfl rfl ?_
    refine ax_r rfl rfl rfl ?_
    unfold e_kindOf at hQ
    rw [if_pos c1] at hQ
    exact hQ
  by_cases c2 : x = 102
  · refine ax_s (pc' := 52) (ls' := [some (.int x)]) (st' := []) (h1 := (am_hh X S L)) rfl (by rw [c2]; rfl) rfl rfl ?_
    refine ax_s (pc' := 53) (st' := [.int 1]) rfl rfl rfl rfl ?_
    refine ax_r rfl rfl rfl ?_
    unfold e_kindOf at hQ
    rw [if_neg c1, if_pos c2] at hQ
    exact hQ
  by_cases c3 : x = 103
  · refine ax_s (pc' := 56) (ls' := [some (.int x)]) (st' := []) (h1 := (am_hh X S L)) rfl (by rw [c3]; rfl) rfl rfl ?_
    refine ax_s (pc' := 57) (st' := [.int 3]) rfl rfl rfl rfl ?_
    refine ax_r rfl rfl rfl ?_
    unfold e_kindOf at hQ
    rw [if_neg c1, if_neg c2, if_pos c3] at hQ
    exact hQ
  by_cases c4 : x = 108
  · refine ax_s (pc' := 54) (ls' := [some (.int x)]) (st' := []) (h1 := (am_hh X S L)) rfl (by rw [c4]; rfl) rfl rfl ?_
    refine ax_s (pc' := 55) (st' := [.int 2]) rfl rfl rfl rfl ?_
    refine ax_r rfl rfl rfl ?_
    unfold e_kindOf at hQ
    rw [if_neg c1, if_neg c2, if_neg c3, if_pos c4] at hQ
    exact hQ
  by_cases c5 : x = 115
  · refine ax_s (pc' := 58) (ls' := [some (.int x)]) (st' := []) (h1 := (am_hh X S L)) rfl (by rw [c5]; rfl) rfl rfl ?_
    refine ax_s (pc' := 59) (st' := [.int 4]) rfl rfl rfl rfl ?_
    refine ax_r rfl rfl rfl ?_
    unfold e_kindOf at hQ
    rw [if_neg c1, if_neg c2, if_neg c3, if_neg c4, if_pos c5] at hQ
    exact hQ
  refine ax_s (pc' := 62) (ls' := [some (.int x)]) (st' := []) (h1 := (am_hh X S L)) rfl (am_lsw (by decide) (by simp [Op.lookupswitch.offset, (show ¬ (99 : Int) = Int32.toInt x from fun q => lv_neT c1 (by decide) q.symm), (show ¬ (102 : Int) = Int32.toInt x from fun q => lv_neT c2 (by decide) q.symm), (show ¬ (103 : Int) = Int32.toInt x from fun q => lv_neT c3 (by decide) q.symm), (show ¬ (108 : Int) = Int32.toInt x from fun q => lv_neT c4 (by decide) q.symm), (show ¬ (115 : Int) = Int32.toInt x from fun q => lv_neT c5 (by decide) q.symm)]) (by decide)) rfl rfl ?_
  refine ax_s (pc' := 63) (st' := [.int 0]) rfl rfl rfl rfl ?_
  refine ax_r rfl rfl rfl ?_
  unfold e_kindOf at hQ
  rw [if_neg c1, if_neg c2, if_neg c3, if_neg c4, if_neg c5] at hQ
  exact hQ
def e_sortBy (S : Nat → Nat → Int32) (x : Int32) : Int32 := (if x = 102 then 1 else (if x = 108 then 2 else (if x = 103 then 3 else (if x = 115 then 4 else (if x = 99 then 5 else 0)))))
theorem w_sortBy {d : Nat} {X : Nat × (Nat → Int32)} {S : Nat → Nat → Int32} {L : Nat → Int64} {x : Int32} {Q : Option Value → am_H → Prop}   (hQ : Q (some (.int (e_sortBy S x))) (am_hh X S L)) : am_mt (d + 1) 166 [.int x] (am_hh X S L) Q := by
  refine ax_in (ls := [some (.int x)]) rfl ?_
  refine ax_s (pc' := 1) (st' := [.int x]) rfl rfl rfl rfl ?_
  refine ax_s (pc' := 3) (st' := [.int 102, .int x]) rfl rfl rfl rfl ?_
  refine ax_cmp_ne rfl (fun c1 => ?_) (fun c1 => ?_)
  · refine ax_s (pc' := 11) (st' := [.int x]) rfl rfl rfl rfl ?_
    refine ax_s (pc' := 13) (st' := [.int 108, .int x]) rfl rfl rfl rfl ?_
    refine ax_cmp_ne rfl (fun c2 => ?_) (fun c2 => ?_)
    · refine ax_s (pc' := 21) (st' := [.int x]) rfl rfl rfl rfl ?_
      refine ax_s (pc' := 23) (st' := [.int 103, .int x]) rfl rfl rfl rfl ?_
      refine ax_cmp_ne rfl (fun c3 => ?_) (fun c3 => ?_)
      · refine ax_s (pc' := 31) (st' := [.int x]) rfl rfl rfl rfl ?_
        refine ax_s (pc' := 33) (st' := [.int 115, .int x]) rfl rfl rfl rfl ?_
        refine ax_cmp_ne rfl (fun c4 => ?_) (fun c4 => ?_)
        · refine ax_s (pc' := 41) (st' := [.int x]) rfl rfl rfl rfl ?_
          refine ax_s (pc' := 43) (st' := [.int 99, .int x]) rfl rfl rfl rfl ?_
          refine ax_cmp_ne rfl (fun c5 => ?_) (fun c5 => ?_)
          · refine ax_s (pc' := 51) (st' := [.int 0]) rfl rfl rfl rfl ?_
            refine ax_r rfl rfl rfl ?_
            unfold e_sortBy at hQ
            rw [if_neg c1, if_neg c2, if_neg c3, if_neg c4, if_neg c5] at hQ
            exact hQ
          · refine ax_s (pc' := 47) (st' := [.int 5]) rfl rfl rfl rfl ?_
            refine ax_s (pc' := 51) (st' := [.int 5]) rfl rfl rfl rfl ?_
            refine ax_r rfl rfl rfl ?_
            unfold e_sortBy at hQ
            rw [if_neg c1, if_neg c2, if_neg c3, if_neg c4, if_pos c5] at hQ
            exact hQ
        · refine ax_s (pc' := 37) (st' := [.int 4]) rfl rfl rfl rfl ?_
          refine ax_s (pc' := 51) (st' := [.int 4]) rfl rfl rfl rfl ?_
          refine ax_r rfl rfl rfl ?_
          unfold e_sortBy at hQ
          rw [if_neg c1, if_neg c2, if_neg c3, if_pos c4] at hQ
          exact hQ
      · refine ax_s (pc' := 27) (st' := [.int 3]) rfl rfl rfl rfl ?_
        refine ax_s (pc' := 51) (st' := [.int 3]) rfl rfl rfl rfl ?_
        refine ax_r rfl rfl rfl ?_
        unfold e_sortBy at hQ
        rw [if_neg c1, if_neg c2, if_pos c3] at hQ
        exact hQ
    · refine ax_s (pc' := 17) (st' := [.int 2]) rfl rfl rfl rfl ?_
      refine ax_s (pc' := 51) (st' := [.int 2]) rfl rfl rfl rfl ?_
      refine ax_r rfl rfl rfl ?_
      unfold e_sortBy at hQ
      rw [if_neg c1, if_pos c2] at hQ
      exact hQ
  · refine ax_s (pc' := 7) (st' := [.int 1]) rfl rfl rfl rfl ?_
    refine ax_s (pc' := 51) (st' := [.int 1]) rfl rfl rfl rfl ?_
    refine ax_r rfl rfl rfl ?_
    unfold e_sortBy at hQ
    rw [if_pos c1] at hQ
    exact hQ
def e_isFigure (S : Nat → Nat → Int32) (x : Int32) : Int32 := (if x < 48 then 0 else (if 57 < x then 0 else 1))
theorem w_isFigure {d : Nat} {X : Nat × (Nat → Int32)} {S : Nat → Nat → Int32} {L : Nat → Int64} {x : Int32} {Q : Option Value → am_H → Prop}   (hQ : Q (some (.int (e_isFigure S x))) (am_hh X S L)) : am_mt (d + 1) 34 [.int x] (am_hh X S L) Q := by
  refine ax_in (ls := [some (.int x)]) rfl ?_
  refine ax_s (pc' := 1) (st' := [.int x]) rfl rfl rfl rfl ?_
  refine ax_s (pc' := 3) (st' := [.int 48, .int x]) rfl rfl rfl rfl ?_
  refine ax_cmp_lt rfl (fun c1 => ?_) (fun c1 => ?_)
  · refine ax_s (pc' := 17) (st' := [.int 0]) rfl rfl rfl rfl ?_
    refine ax_rb (b := false) rfl rfl ?_
    unfold e_isFigure at hQ
    rw [if_pos c1] at hQ
    exact hQ
  · refine ax_s (pc' := 7) (st' := [.int x]) rfl rfl rfl rfl ?_
    refine ax_s (pc' := 9) (st' := [.int 57, .int x]) rfl rfl rfl rfl ?_
    refine ax_cmp_gt rfl (fun c2 => ?_) (fun c2 => ?_)
    · refine ax_s (pc' := 17) (st' := [.int 0]) rfl rfl rfl rfl ?_
      refine ax_rb (b := false) rfl rfl ?_
      unfold e_isFigure at hQ
      rw [if_neg c1, if_pos c2] at hQ
      exact hQ
    · refine ax_s (pc' := 13) (st' := [.int 1]) rfl rfl rfl rfl ?_
      refine ax_s (pc' := 17) (st' := [.int 1]) rfl rfl rfl rfl ?_
      refine ax_rb (b := true) rfl rfl ?_
      unfold e_isFigure at hQ
      rw [if_neg c1, if_neg c2] at hQ
      exact hQ
theorem wp_here {d : Nat} {X : Nat × (Nat → Int32)} {S : Nat → Nat → Int32} {L : Nat → Int64} {len a : Nat} {Q : Option Value → am_H → Prop} (ha : S 285 21 = nI a) (hl : S 285 5 = nI len)  (x1 : ¬ (S 285 5) ≤ (S 285 21) → a < 100) (k1 : (S 285 5) ≤ (S 285 21) → Q (some (.int (-1))) (am_hh X S L)) (k2 : ¬ (S 285 5) ≤ (S 285 21) → Q (some (.int (S 289 a))) (am_hh X S L)) : am_mt (d + 1) 161 [.ref 285] (am_hh X S L) Q := by
  refine ax_in (ls := [some (.ref 285)]) rfl ?_
  refine ax_s (pc' := 1) (st' := [.ref 285]) rfl rfl rfl rfl ?_
  refine ax_get rfl (hh_285 _ _ _) rfl rfl rfl ?_
  show am_ex (d + 1) 161 4 [some (.ref 285)] [.int (S 285 21)] (am_hh X S L) _
  refine ax_s (pc' := 5) (st' := [.ref 285, .int (S 285 21)]) rfl rfl rfl rfl ?_
  refine ax_get rfl (hh_285 _ _ _) rfl rfl rfl ?_
  show am_ex (d + 1) 161 8 [some (.ref 285)] [.int (S 285 5), .int (S 285 21)] (am_hh X S L) _
  refine ax_cmp_ge rfl (fun c1 => ?_) (fun c1 => ?_)
  · refine ax_s (pc' := 24) (st' := [.int (-1)]) rfl rfl rfl rfl ?_
    refine ax_r rfl rfl rfl ?_
    exact k1 c1
  · refine ax_s (pc' := 12) (st' := [.ref 285]) rfl rfl rfl rfl ?_
    refine ax_get rfl (hh_285 _ _ _) rfl rfl rfl ?_
    show am_ex (d + 1) 161 15 [some (.ref 285)] [.ref 289] (am_hh X S L) _
    refine ax_s (pc' := 16) (st' := [.ref 285, .ref 289]) rfl rfl rfl rfl ?_
    refine ax_get rfl (hh_285 _ _ _) rfl rfl rfl ?_
    show am_ex (d + 1) 161 19 [some (.ref 285)] [.int (S 285 21), .ref 289] (am_hh X S L) _
    refine ax_ald (j := a) (v := (S 289 a)) rfl (hh_289 _ _ _) rfl ha (x1 c1) (by decide) rfl ?_
    refine ax_s (pc' := 24) (st' := [.int (S 289 a)]) rfl rfl rfl rfl ?_
    refine ax_r rfl rfl rfl ?_
    exact k2 c1
