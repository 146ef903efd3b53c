theorem wm_status {d : Nat} {X : Nat × (Nat → Int32)} {S : Nat → Nat → Int32} {L : Nat → Int64} {Q : Option Value → am_H → Prop}  (k1 : Q (some (.int (S 285 3))) (am_hh X S L)) : am_mt (d + 2) 237 [.ref 285] (am_hh X S L) Q := by
  refine ax_in (ls := [some (.ref 285)]) rfl ?_
  refine ax_s (pc' := 1) (st' := [.ref 285]) rfl rfl rfl rfl ?_
  refine ax_get rfl (hh_285 _ _ _) rfl rfl rfl ?_
  show am_ex (d + 2) 237 4 [some (.ref 285)] [.int (S 285 3)] (am_hh X S L) _
  refine ax_r rfl rfl rfl ?_
  exact k1 
theorem wm_fault {d : Nat} {X : Nat × (Nat → Int32)} {S : Nat → Nat → Int32} {L : Nat → Int64} {Q : Option Value → am_H → Prop}  (k1 : Q (some (.int (S 285 6))) (am_hh X S L)) : am_mt (d + 2) 168 [.ref 285] (am_hh X S L) Q := by
  refine ax_in (ls := [some (.ref 285)]) rfl ?_
  refine ax_s (pc' := 1) (st' := [.ref 285]) rfl rfl rfl rfl ?_
  refine ax_get rfl (hh_285 _ _ _) rfl rfl rfl ?_
  show am_ex (d + 2) 168 4 [some (.ref 285)] [.int (S 285 6)] (am_hh X S L) _
  refine ax_r rfl rfl rfl ?_
  exact k1 
theorem wk_status {d : Nat} {X : Nat × (Nat → Int32)} {S : Nat → Nat → Int32} {L : Nat → Int64} {Q : Option Value → am_H → Prop}  (k1 : Q (some (.int (S 5 12))) (am_hh X S L)) : am_mt (d + 2) 145 [.ref 5] (am_hh X S L) Q := by
  refine ax_in (ls := [some (.ref 5)]) rfl ?_
  refine ax_s (pc' := 1) (st' := [.ref 5]) rfl rfl rfl rfl ?_
  refine ax_get rfl (hh_5 _ _ _) rfl rfl rfl ?_
  show am_ex (d + 2) 145 4 [some (.ref 5)] [.int (S 5 12)] (am_hh X S L) _
  refine ax_r rfl rfl rfl ?_
  exact k1 
theorem wk_fault {d : Nat} {X : Nat × (Nat → Int32)} {S : Nat → Nat → Int32} {L : Nat → Int64} {Q : Option Value → am_H → Prop}  (k1 : Q (some (.int (S 5 11))) (am_hh X S L)) : am_mt (d + 2) 46 [.ref 5] (am_hh X S L) Q := by
  refine ax_in (ls := [some (.ref 5)]) rfl ?_
  refine ax_s (pc' := 1) (st' := [.ref 5]) rfl rfl rfl rfl ?_
  refine ax_get rfl (hh_5 _ _ _) rfl rfl rfl ?_
  show am_ex (d + 2) 46 4 [some (.ref 5)] [.int (S 5 11)] (am_hh X S L) _
  refine ax_r rfl rfl rfl ?_
  exact k1 
theorem wm_feed {d : Nat} {X : Nat × (Nat → Int32)} {S : Nat → Nat → Int32} {L : Nat → Int64} {p : Int32} {t : Nat} {Q : Option Value → am_H → Prop} (htm : S 285 5 = nI t) (ht1 : t ≤ 100)  (k1 : (decide (¬ p < 0 ∧ ¬ 255 < p)) = true → ¬ (S 285 5) = 100 → Q (some (.int ((S 285 5) + 1))) (am_hh X (am_u (am_u S 289 t p) 285 5 ((S 285 5) + 1)) L)) (k2 : (decide (¬ p < 0 ∧ ¬ 255 < p)) = true → (S 285 5) = 100 → Q (some (.int (-1000003))) (am_hh X S L)) (k3 : (decide (¬ p < 0 ∧ ¬ 255 < p)) = false → Q (some (.int (-1000001))) (am_hh X S L)) : am_mt (d + 2) 157 [.ref 285, .int p] (am_hh X S L) Q := by
  refine ax_in (ls := [some (.ref 285), some (.int p)]) rfl ?_
  refine ax_s (pc' := 1) (st' := [.int p]) rfl rfl rfl rfl ?_
  refine ax_s (pc' := 2) (st' := [.int 0, .int p]) rfl rfl rfl rfl ?_
  refine ax_s (pc' := 5) (st' := [.int 255, .int 0, .int p]) rfl rfl rfl rfl ?_
  refine ax_call (vs := [.int p, .int 0, .int 255]) (rr := []) rfl rfl rfl ?_
  refine mt_in ?_
  show am_ex (d + 2) 157 8 [some (.ref 285), some (.int p)] [.int (bI (decide (¬ p < 0 ∧ ¬ 255 < p)))] (am_hh X S L) _
  refine ax_bT rfl (fun c157_8 => ?_) (fun c157_8 => ?_)
  · refine ax_s (pc' := 15) (st' := [.ref 285]) rfl rfl rfl rfl ?_
    refine ax_get rfl (hh_285 _ _ _) rfl rfl rfl ?_
    show am_ex (d + 2) 157 18 [some (.ref 285), some (.int p)] [.int (S 285 5)] (am_hh X S L) _
    refine ax_s (pc' := 20) (st' := [.int 100, .int (S 285 5)]) rfl rfl rfl rfl ?_
    refine ax_cmp_ne rfl (fun c157_20 => ?_) (fun c157_20 => ?_)
    · refine ax_s (pc' := 27) (st' := [.ref 285]) rfl rfl rfl rfl ?_
      refine ax_get rfl (hh_285 _ _ _) rfl rfl rfl ?_
      show am_ex (d + 2) 157 30 [some (.ref 285), some (.int p)] [.ref 289] (am_hh X S L) _
      refine ax_s (pc' := 31) (st' := [.ref 285, .ref 289]) rfl rfl rfl rfl ?_
      refine ax_get rfl (hh_285 _ _ _) rfl rfl rfl ?_
      show am_ex (d + 2) 157 34 [some (.ref 285), some (.int p)] [.int (S 285 5), .ref 289] (am_hh X S L) _
      refine ax_s (pc' := 35) (st' := [.int p, .int (S 285 5), .ref 289]) rfl rfl rfl rfl ?_
      refine ax_ast (j := t) rfl (hh_289 _ _ _) rfl htm (by have q : ¬ t = 100 := fun z => c157_20 (by rw [htm, z]; rfl); omega) (by decide) (am_hh_set _ _ _ 289 t _ rfl) ?_
      refine ax_s (pc' := 37) (st' := [.ref 285]) rfl rfl rfl rfl ?_
      refine ax_s (pc' := 38) (st' := [.ref 285, .ref 285]) rfl rfl rfl rfl ?_
      refine ax_get rfl (hh_285 _ _ _) rfl rfl rfl ?_
      show am_ex (d + 2) 157 41 [some (.ref 285), some (.int p)] [.int (S 285 5), .ref 285] (am_hh X (am_u S 289 t p) L) _
      refine ax_s (pc' := 42) (st' := [.int 1, .int (S 285 5), .ref 285]) rfl rfl rfl rfl ?_
      refine ax_s (pc' := 43) (st' := [.int ((S 285 5) + 1), .ref 285]) rfl rfl rfl rfl ?_
      refine ax_put rfl (hh_285 _ _ _) rfl rfl (show 5 + 1 ≤ _ from Nat.le_of_ble_eq_true rfl) rfl (am_hh_set _ _ _ 285 5 _ rfl) ?_
      refine ax_s (pc' := 47) (st' := [.ref 285]) rfl rfl rfl rfl ?_
      refine ax_get rfl (hh_285 _ _ _) rfl rfl rfl ?_
      show am_ex (d + 2) 157 50 [some (.ref 285), some (.int p)] [.int ((S 285 5) + 1)] (am_hh X (am_u (am_u S 289 t p) 285 5 ((S 285 5) + 1)) L) _
      refine ax_r rfl rfl rfl ?_
      exact k1 c157_8 c157_20
    · refine ax_s (pc' := 25) (st' := [.int (-1000003)]) rfl rfl rfl rfl ?_
      refine ax_r rfl rfl rfl ?_
      exact k2 c157_8 c157_20
  · refine ax_s (pc' := 13) (st' := [.int (-1000001)]) rfl rfl rfl rfl ?_
    refine ax_r rfl rfl rfl ?_
    exact k3 c157_8
theorem wk_feed {d : Nat} {X : Nat × (Nat → Int32)} {S : Nat → Nat → Int32} {L : Nat → Int64} {p : Int32} {t : Nat} {Q : Option Value → am_H → Prop} (htm : S 18 2 = nI t) (ht1 : t ≤ 100)  (k1 : p < 0 → Q (some (.int (-1000001))) (am_hh X S L)) (k2 : ¬ p < 0 → p ≤ 255 → (S 18 2) < 100 → 100 ≤ (S 18 2) → Q (some (.int (S 18 2))) (am_hh X S L)) (k3 : ¬ p < 0 → p ≤ 255 → (S 18 2) < 100 → ¬ 100 ≤ (S 18 2) → Q (some (.int ((S 18 2) + 1))) (am_hh X (am_u (am_u S 19 t p) 18 2 ((S 18 2) + 1)) L)) (k4 : ¬ p < 0 → p ≤ 255 → ¬ (S 18 2) < 100 → Q (some (.int (-1000003))) (am_hh X S L)) (k5 : ¬ p < 0 → ¬ p ≤ 255 → Q (some (.int (-1000001))) (am_hh X S L)) : am_mt (d + 3) 26 [.ref 5, .int p] (am_hh X S L) Q := by
  refine ax_in (ls := [some (.ref 5), some (.int p)]) rfl ?_
  refine ax_s (pc' := 1) (st' := [.int p]) rfl rfl rfl rfl ?_
  refine ax_if_lt rfl (fun c26_1 => ?_) (fun c26_1 => ?_)
  · refine ax_s (pc' := 13) (st' := [.int (-1000001)]) rfl rfl rfl rfl ?_
    refine ax_r rfl rfl rfl ?_
    exact k1 c26_1
  · refine ax_s (pc' := 5) (st' := [.int p]) rfl rfl rfl rfl ?_
    refine ax_s (pc' := 8) (st' := [.int 255, .int p]) rfl rfl rfl rfl ?_
    refine ax_cmp_le rfl (fun c26_8 => ?_) (fun c26_8 => ?_)
    · refine ax_s (pc' := 15) (st' := [.ref 5]) rfl rfl rfl rfl ?_
      refine ax_get rfl (hh_5 _ _ _) rfl rfl rfl ?_
      show am_ex (d + 3) 26 18 [some (.ref 5), some (.int p)] [.ref 18] (am_hh X S L) _
      refine ax_get rfl (hh_18 _ _ _) rfl rfl rfl ?_
      show am_ex (d + 3) 26 21 [some (.ref 5), some (.int p)] [.int (S 18 2)] (am_hh X S L) _
      refine ax_s (pc' := 23) (st' := [.int 100, .int (S 18 2)]) rfl rfl rfl rfl ?_
      refine ax_cmp_lt rfl (fun c26_23 => ?_) (fun c26_23 => ?_)
      · refine ax_s (pc' := 30) (st' := [.ref 5]) rfl rfl rfl rfl ?_
        refine ax_get rfl (hh_5 _ _ _) rfl rfl rfl ?_
        show am_ex (d + 3) 26 33 [some (.ref 5), some (.int p)] [.ref 18] (am_hh X S L) _
        refine ax_s (pc' := 34) (st' := [.int p, .ref 18]) rfl rfl rfl rfl ?_
        refine ax_call (vs := [.ref 18, .int p]) (rr := []) rfl rfl rfl ?_
        refine ax_in (ls := [some (.ref 18), some (.int p)]) rfl ?_
        refine ax_s (pc' := 1) (st' := [.ref 18]) rfl rfl rfl rfl ?_
        refine ax_get rfl (hh_18 _ _ _) rfl rfl rfl ?_
        show am_ex (d + 2) 27 4 [some (.ref 18), some (.int p)] [.int (S 18 2)] (am_hh X S L) _
        refine ax_s (pc' := 6) (st' := [.int 100, .int (S 18 2)]) rfl rfl rfl rfl ?_
        refine ax_cmp_ge rfl (fun c27_6 => ?_) (fun c27_6 => ?_)
        · refine ax_s (pc' := 30) (st' := [.ref 18]) rfl rfl rfl rfl ?_
          refine ax_get rfl (hh_18 _ _ _) rfl rfl rfl ?_
          show am_ex (d + 2) 27 33 [some (.ref 18), some (.int p)] [.int (S 18 2)] (am_hh X S L) _
          refine ax_r rfl rfl rfl ?_
          show am_ex (d + 3) 26 37 [some (.ref 5), some (.int p)] [.int (S 18 2)] (am_hh X S L) _
          refine ax_r rfl rfl rfl ?_
          exact k2 c26_1 c26_8 c26_23 c27_6
        · refine ax_s (pc' := 10) (st' := [.ref 18]) rfl rfl rfl rfl ?_
          refine ax_get rfl (hh_18 _ _ _) rfl rfl rfl ?_
          show am_ex (d + 2) 27 13 [some (.ref 18), some (.int p)] [.ref 19] (am_hh X S L) _
          refine ax_s (pc' := 14) (st' := [.ref 18, .ref 19]) rfl rfl rfl rfl ?_
          refine ax_get rfl (hh_18 _ _ _) rfl rfl rfl ?_
          show am_ex (d + 2) 27 17 [some (.ref 18), some (.int p)] [.int (S 18 2), .ref 19] (am_hh X S L) _
          refine ax_s (pc' := 18) (st' := [.int p, .int (S 18 2), .ref 19]) rfl rfl rfl rfl ?_
          refine ax_ast (j := t) rfl (hh_19 _ _ _) rfl htm (by have q : ¬ 100 ≤ t := fun z => HC (by rw [htm]; exact nI_le (a := 100) z (by omega)); omega) (by decide) (am_hh_set _ _ _ 19 t _ rfl) ?_
          refine ax_s (pc' := 20) (st' := [.ref 18]) rfl rfl rfl rfl ?_
          refine ax_s (pc' := 21) (st' := [.ref 18, .ref 18]) rfl rfl rfl rfl ?_
          refine ax_get rfl (hh_18 _ _ _) rfl rfl rfl ?_
          show am_ex (d + 2) 27 24 [some (.ref 18), some (.int p)] [.int (S 18 2), .ref 18] (am_hh X (am_u S 19 t p) L) _
          refine ax_s (pc' := 25) (st' := [.int 1, .int (S 18 2), .ref 18]) rfl rfl rfl rfl ?_
          refine ax_s (pc' := 26) (st' := [.int ((S 18 2) + 1), .ref 18]) rfl rfl rfl rfl ?_
          refine ax_put rfl (hh_18 _ _ _) rfl rfl (show 2 + 1 ≤ _ from Nat.le_of_ble_eq_true rfl) rfl (am_hh_set _ _ _ 18 2 _ rfl) ?_
          refine ax_s (pc' := 30) (st' := [.ref 18]) rfl rfl rfl rfl ?_
          refine ax_get rfl (hh_18 _ _ _) rfl rfl rfl ?_
          show am_ex (d + 2) 27 33 [some (.ref 18), some (.int p)] [.int ((S 18 2) + 1)] (am_hh X (am_u (am_u S 19 t p) 18 2 ((S 18 2) + 1)) L) _
          refine ax_r rfl rfl rfl ?_
          show am_ex (d + 3) 26 37 [some (.ref 5), some (.int p)] [.int ((S 18 2) + 1)] (am_hh X (am_u (am_u S 19 t p) 18 2 ((S 18 2) + 1)) L) _
          refine ax_r rfl rfl rfl ?_
          exact k3 c26_1 c26_8 c26_23 c27_6
      · refine ax_s (pc' := 28) (st' := [.int (-1000003)]) rfl rfl rfl rfl ?_
        refine ax_r rfl rfl rfl ?_
        exact k4 c26_1 c26_8 c26_23
    · refine ax_s (pc' := 13) (st' := [.int (-1000001)]) rfl rfl rfl rfl ?_
      refine ax_r rfl rfl rfl ?_
      exact k5 c26_1 c26_8
