theorem wl_share1 {d : Nat} {X : Nat × (Nat → Int32)} {S : Nat → Nat → Int32} {L : Nat → Int64} {j t : Nat} {q A : Int32} {x5 x6 x7 : Option Value} {Q : Option Value → am_H → Prop}  (x1 : ¬ (S 20 4) ≤ (nI j) → j < 6) (k1 : (S 20 4) ≤ (nI j) → am_ex (d + 4) 105 29 [some (.ref 20), some (.int (nI t)), some (.int q), some (.int A), some (.int (nI j)), x5, x6, x7] [] (am_hh X S L) Q) (k2 : ¬ (S 20 4) ≤ (nI j) → am_ex (d + 4) 105 5 [some (.ref 20), some (.int (nI t)), some (.int q), some (.int (A + (ro (S 25) (S 27) j))), some (.int (nI (j + 1))), x5, x6, x7] [] (am_hh X S L) Q) : am_ex (d + 4) 105 5 [some (.ref 20), some (.int (nI t)), some (.int q), some (.int A), some (.int (nI j)), x5, x6, x7] [] (am_hh X S L) Q := by
  refine ax_s (pc' := 7) (st' := [.int (nI j)]) rfl rfl rfl rfl ?_
  refine ax_s (pc' := 8) (st' := [.ref 20, .int (nI j)]) rfl rfl rfl rfl ?_
  refine ax_get rfl (hh_20 _ _ _) rfl rfl rfl ?_
  show am_ex (d + 4) 105 11 [some (.ref 20), some (.int (nI t)), some (.int q), some (.int A), some (.int (nI j)), x5, x6, x7] [.int (S 20 4), .int (nI j)] (am_hh X S L) _
  refine ax_cmp_ge rfl (fun c1 => ?_) (fun c1 => ?_)
  · exact k1 c1
  · refine ax_s (pc' := 15) (st' := [.int A]) rfl rfl rfl rfl ?_
    refine ax_s (pc' := 16) (st' := [.ref 20, .int A]) rfl rfl rfl rfl ?_
    refine ax_s (pc' := 18) (st' := [.int (nI j), .ref 20, .int A]) rfl rfl rfl rfl ?_
    refine ax_call (vs := [.ref 20, .int (nI j)]) (rr := [.int A]) rfl rfl rfl ?_
    refine kt_ro rfl (x1 c1) ?_
    show am_ex (d + 4) 105 21 [some (.ref 20), some (.int (nI t)), some (.int q), some (.int A), some (.int (nI j)), x5, x6, x7] [.int (ro (S 25) (S 27) j), .int A] (am_hh X S L) _
    refine ax_s (pc' := 22) (st' := [.int (A + (ro (S 25) (S 27) j))]) rfl rfl rfl rfl ?_
    refine ax_s (pc' := 23) (ls' := [some (.ref 20), some (.int (nI t)), some (.int q), some (.int (A + (ro (S 25) (S 27) j))), some (.int (nI j)), x5, x6, x7]) (st' := []) rfl rfl rfl rfl ?_
    refine ax_s (pc' := 26) (ls' := [some (.ref 20), some (.int (nI t)), some (.int q), some (.int (A + (ro (S 25) (S 27) j))), some (.int ((nI j) + 1)), x5, x6, x7]) (st' := []) rfl rfl rfl rfl ?_
    rw [nI_1]
    refine ax_s (pc' := 5) (st' := []) rfl rfl rfl rfl ?_
    exact k2 c1
theorem wl_share2 {d : Nat} {X : Nat × (Nat → Int32)} {S : Nat → Nat → Int32} {L : Nat → Int64} {t : Nat} {q A x : Int32} {x5 x6 x7 : Option Value} {Q : Option Value → am_H → Prop}  (x1 : ¬ A ≤ 0 → t < 6) (k1 : A ≤ 0 → Q (some (.int 0)) (am_hh X S L)) (k2 : ¬ A ≤ 0 → ¬ (ro (S 25) (S 27) t) = 0 → am_ex (d + 4) 105 52 [some (.ref 20), some (.int (nI t)), some (.int q), some (.int A), some (.int q), some (.int 0), some (.int 0), x7] [] (am_hh X S L) Q) (k3 : ¬ A ≤ 0 → (ro (S 25) (S 27) t) = 0 → Q (some (.int 0)) (am_hh X S L)) : am_ex (d + 4) 105 29 [some (.ref 20), some (.int (nI t)), some (.int q), some (.int A), some (.int x), x5, x6, x7] [] (am_hh X S L) Q := by
  refine ax_s (pc' := 30) (st' := [.int A]) rfl rfl rfl rfl ?_
  refine ax_if_le rfl (fun c1 => ?_) (fun c1 => ?_)
  · refine ax_s (pc' := 42) (st' := [.int 0]) rfl rfl rfl rfl ?_
    refine ax_r rfl rfl rfl ?_
    exact k1 c1
  · refine ax_s (pc' := 34) (st' := [.ref 20]) rfl rfl rfl rfl ?_
    refine ax_s (pc' := 35) (st' := [.int (nI t), .ref 20]) rfl rfl rfl rfl ?_
    refine ax_call (vs := [.ref 20, .int (nI t)]) (rr := []) rfl rfl rfl ?_
    refine kt_ro rfl (x1 c1) ?_
    show am_ex (d + 4) 105 38 [some (.ref 20), some (.int (nI t)), some (.int q), some (.int A), some (.int x), x5, x6, x7] [.int (ro (S 25) (S 27) t)] (am_hh X S L) _
    refine ax_if_ne rfl (fun c2 => ?_) (fun c2 => ?_)
    · refine ax_s (pc' := 44) (st' := [.int q]) rfl rfl rfl rfl ?_
      refine ax_s (pc' := 46) (ls' := [some (.ref 20), some (.int (nI t)), some (.int q), some (.int A), some (.int q), x5, x6, x7]) (st' := []) rfl rfl rfl rfl ?_
      refine ax_s (pc' := 47) (st' := [.int 0]) rfl rfl rfl rfl ?_
      refine ax_s (pc' := 49) (ls' := [some (.ref 20), some (.int (nI t)), some (.int q), some (.int A), some (.int q), some (.int 0), x6, x7]) (st' := []) rfl rfl rfl rfl ?_
      refine ax_s (pc' := 50) (st' := [.int 0]) rfl rfl rfl rfl ?_
      refine ax_s (pc' := 52) (ls' := [some (.ref 20), some (.int (nI t)), some (.int q), some (.int A), some (.int q), some (.int 0), some (.int 0), x7]) (st' := []) rfl rfl rfl rfl ?_
      exact k2 c1 c2
    · refine ax_s (pc' := 42) (st' := [.int 0]) rfl rfl rfl rfl ?_
      refine ax_r rfl rfl rfl ?_
      exact k3 c1 c2
theorem wl_share3 {d : Nat} {X : Nat × (Nat → Int32)} {S : Nat → Nat → Int32} {L : Nat → Int64} {j t : Nat} {q A x y : Int32} {x7 : Option Value} {Q : Option Value → am_H → Prop}  (x1 : (S 20 4) ≤ (nI j) → t < 6) (x2 : (S 20 4) ≤ (nI j) → ¬ A = 0) (x3 : ¬ (S 20 4) ≤ (nI j) → j < 6) (x4 : ¬ (S 20 4) ≤ (nI j) → ¬ A = 0) (k1 : (S 20 4) ≤ (nI j) → x ≤ y → Q (some (.int (((q * (ro (S 25) (S 27) t)) / A) + 0))) (am_hh X S L)) (k2 : (S 20 4) ≤ (nI j) → ¬ x ≤ y → Q (some (.int (((q * (ro (S 25) (S 27) t)) / A) + 1))) (am_hh X S L)) (k3 : ¬ (S 20 4) ≤ (nI j) → (ro (S 25) (S 27) j) ≤ 0 → am_ex (d + 4) 105 52 [some (.ref 20), some (.int (nI t)), some (.int q), some (.int A), some (.int (x - ((q * (ro (S 25) (S 27) j)) / A))), some (.int y), some (.int (nI (j + 1))), some (.int (ro (S 25) (S 27) j))] [] (am_hh X S L) Q) (k4 : ¬ (S 20 4) ≤ (nI j) → ¬ (ro (S 25) (S 27) j) ≤ 0 → (nI t) ≤ (nI j) → am_ex (d + 4) 105 52 [some (.ref 20), some (.int (nI t)), some (.int q), some (.int A), some (.int (x - ((q * (ro (S 25) (S 27) j)) / A))), some (.int y), some (.int (nI (j + 1))), some (.int (ro (S 25) (S 27) j))] [] (am_hh X S L) Q) (k5 : ¬ (S 20 4) ≤ (nI j) → ¬ (ro (S 25) (S 27) j) ≤ 0 → ¬ (nI t) ≤ (nI j) → am_ex (d + 4) 105 52 [some (.ref 20), some (.int (nI t)), some (.int q), some (.int A), some (.int (x - ((q * (ro (S 25) (S 27) j)) / A))), some (.int (y + 1)), some (.int (nI (j + 1))), some (.int (ro (S 25) (S 27) j))] [] (am_hh X S L) Q) : am_ex (d + 4) 105 52 [some (.ref 20), some (.int (nI t)), some (.int q), some (.int A), some (.int x), some (.int y), some (.int (nI j)), x7] [] (am_hh X S L) Q := by
  refine ax_s (pc' := 54) (st' := [.int (nI j)]) rfl rfl rfl rfl ?_
  refine ax_s (pc' := 55) (st' := [.ref 20, .int (nI j)]) rfl rfl rfl rfl ?_
  refine ax_get rfl (hh_20 _ _ _) rfl rfl rfl ?_
  show am_ex (d + 4) 105 58 [some (.ref 20), some (.int (nI t)), some (.int q), some (.int A), some (.int x), some (.int y), some (.int (nI j)), x7] [.int (S 20 4), .int (nI j)] (am_hh X S L) _
  refine ax_cmp_ge rfl (fun c1 => ?_) (fun c1 => ?_)
  · refine ax_s (pc' := 101) (st' := [.int q]) rfl rfl rfl rfl ?_
    refine ax_s (pc' := 102) (st' := [.ref 20, .int q]) rfl rfl rfl rfl ?_
    refine ax_s (pc' := 103) (st' := [.int (nI t), .ref 20, .int q]) rfl rfl rfl rfl ?_
    refine ax_call (vs := [.ref 20, .int (nI t)]) (rr := [.int q]) rfl rfl rfl ?_
    refine kt_ro rfl (x1 c1) ?_
    show am_ex (d + 4) 105 106 [some (.ref 20), some (.int (nI t)), some (.int q), some (.int A), some (.int x), some (.int y), some (.int (nI j)), x7] [.int (ro (S 25) (S 27) t), .int q] (am_hh X S L) _
    refine ax_s (pc' := 107) (st' := [.int (q * (ro (S 25) (S 27) t))]) rfl rfl rfl rfl ?_
    refine ax_s (pc' := 108) (st' := [.int A, .int (q * (ro (S 25) (S 27) t))]) rfl rfl rfl rfl ?_
    refine ax_idiv rfl (x2 c1) ?_
    refine ax_s (pc' := 111) (st' := [.int y, .int ((q * (ro (S 25) (S 27) t)) / A)]) rfl rfl rfl rfl ?_
    refine ax_s (pc' := 113) (st' := [.int x, .int y, .int ((q * (ro (S 25) (S 27) t)) / A)]) rfl rfl rfl rfl ?_
    refine ax_cmp_ge rfl (fun c2 => ?_) (fun c2 => ?_)
    · refine ax_s (pc' := 121) (st' := [.int 0, .int ((q * (ro (S 25) (S 27) t)) / A)]) rfl rfl rfl rfl ?_
      refine ax_s (pc' := 122) (st' := [.int (((q * (ro (S 25) (S 27) t)) / A) + 0)]) rfl rfl rfl rfl ?_
      refine ax_r rfl rfl rfl ?_
      exact k1 c1 c2
    · refine ax_s (pc' := 117) (st' := [.int 1, .int ((q * (ro (S 25) (S 27) t)) / A)]) rfl rfl rfl rfl ?_
      refine ax_s (pc' := 121) (st' := [.int 1, .int ((q * (ro (S 25) (S 27) t)) / A)]) rfl rfl rfl rfl ?_
      refine ax_s (pc' := 122) (st' := [.int (((q * (ro (S 25) (S 27) t)) / A) + 1)]) rfl rfl rfl rfl ?_
      refine ax_r rfl rfl rfl ?_
      exact k2 c1 c2
  · refine ax_s (pc' := 62) (st' := [.ref 20]) rfl rfl rfl rfl ?_
    refine ax_s (pc' := 64) (st' := [.int (nI j), .ref 20]) rfl rfl rfl rfl ?_
    refine ax_call (vs := [.ref 20, .int (nI j)]) (rr := []) rfl rfl rfl ?_
    refine kt_ro rfl (x3 c1) ?_
    show am_ex (d + 4) 105 67 [some (.ref 20), some (.int (nI t)), some (.int q), some (.int A), some (.int x), some (.int y), some (.int (nI j)), x7] [.int (ro (S 25) (S 27) j)] (am_hh X S L) _
    refine ax_s (pc' := 69) (ls' := [some (.ref 20), some (.int (nI t)), some (.int q), some (.int A), some (.int x), some (.int y), some (.int (nI j)), some (.int (ro (S 25) (S 27) j))]) (st' := []) rfl rfl rfl rfl ?_
    refine ax_s (pc' := 71) (st' := [.int x]) rfl rfl rfl rfl ?_
    refine ax_s (pc' := 72) (st' := [.int q, .int x]) rfl rfl rfl rfl ?_
    refine ax_s (pc' := 74) (st' := [.int (ro (S 25) (S 27) j), .int q, .int x]) rfl rfl rfl rfl ?_
    refine ax_s (pc' := 75) (st' := [.int (q * (ro (S 25) (S 27) j)), .int x]) rfl rfl rfl rfl ?_
    refine ax_s (pc' := 76) (st' := [.int A, .int (q * (ro (S 25) (S 27) j)), .int x]) rfl rfl rfl rfl ?_
    refine ax_idiv rfl (x4 c1) ?_
    refine ax_s (pc' := 78) (st' := [.int (x - ((q * (ro (S 25) (S 27) j)) / A))]) rfl rfl rfl rfl ?_
    refine ax_s (pc' := 80) (ls' := [some (.ref 20), some (.int (nI t)), some (.int q), some (.int A), some (.int (x - ((q * (ro (S 25) (S 27) j)) / A))), some (.int y), some (.int (nI j)), some (.int (ro (S 25) (S 27) j))]) (st' := []) rfl rfl rfl rfl ?_
    refine ax_s (pc' := 82) (st' := [.int (ro (S 25) (S 27) j)]) rfl rfl rfl rfl ?_
    refine ax_if_le rfl (fun c3 => ?_) (fun c3 => ?_)
    · refine ax_s (pc' := 97) (ls' := [some (.ref 20), some (.int (nI t)), some (.int q), some (.int A), some (.int (x - ((q * (ro (S 25) (S 27) j)) / A))), some (.int y), some (.int ((nI j) + 1)), some (.int (ro (S 25) (S 27) j))]) (st' := []) rfl rfl rfl rfl ?_
      rw [nI_1]
      refine ax_s (pc' := 52) (st' := []) rfl rfl rfl rfl ?_
      exact k3 c1 c3
    · refine ax_s (pc' := 87) (st' := [.int (nI j)]) rfl rfl rfl rfl ?_
      refine ax_s (pc' := 88) (st' := [.int (nI t), .int (nI j)]) rfl rfl rfl rfl ?_
      refine ax_cmp_ge rfl (fun c4 => ?_) (fun c4 => ?_)
      · refine ax_s (pc' := 97) (ls' := [some (.ref 20), some (.int (nI t)), some (.int q), some (.int A), some (.int (x - ((q * (ro (S 25) (S 27) j)) / A))), some (.int y), some (.int ((nI j) + 1)), some (.int (ro (S 25) (S 27) j))]) (st' := []) rfl rfl rfl rfl ?_
        rw [nI_1]
        refine ax_s (pc' := 52) (st' := []) rfl rfl rfl rfl ?_
        exact k4 c1 c3 c4
      · refine ax_s (pc' := 94) (ls' := [some (.ref 20), some (.int (nI t)), some (.int q), some (.int A), some (.int (x - ((q * (ro (S 25) (S 27) j)) / A))), some (.int (y + 1)), some (.int (nI j)), some (.int (ro (S 25) (S 27) j))]) (st' := []) rfl rfl rfl rfl ?_
        refine ax_s (pc' := 97) (ls' := [some (.ref 20), some (.int (nI t)), some (.int q), some (.int A), some (.int (x - ((q * (ro (S 25) (S 27) j)) / A))), some (.int (y + 1)), some (.int ((nI j) + 1)), some (.int (ro (S 25) (S 27) j))]) (st' := []) rfl rfl rfl rfl ?_
        rw [nI_1]
        refine ax_s (pc' := 52) (st' := []) rfl rfl rfl rfl ?_
        exact k5 c1 c3 c4
theorem wp_share {d : Nat} {X : Nat × (Nat → Int32)} {S : Nat → Nat → Int32} {L : Nat → Int64} {t : Nat} {q : Int32} {Q : Option Value → am_H → Prop}  (k1 : am_ex (d + 4) 105 5 [some (.ref 20), some (.int (nI t)), some (.int q), some (.int 0), some (.int 0), none, none, none] [] (am_hh X S L) Q) : am_mt (d + 4) 105 [.ref 20, .int (nI t), .int q] (am_hh X S L) Q := by
  refine ax_in (ls := [some (.ref 20), some (.int (nI t)), some (.int q), none, none, none, none, none]) rfl ?_
  refine ax_s (pc' := 1) (st' := [.int 0]) rfl rfl rfl rfl ?_
  refine ax_s (pc' := 2) (ls' := [some (.ref 20), some (.int (nI t)), some (.int q), some (.int 0), none, none, none, none]) (st' := []) rfl rfl rfl rfl ?_
  refine ax_s (pc' := 3) (st' := [.int 0]) rfl rfl rfl rfl ?_
  refine ax_s (pc' := 5) (ls' := [some (.ref 20), some (.int (nI t)), some (.int q), some (.int 0), some (.int 0), none, none, none]) (st' := []) rfl rfl rfl rfl ?_
  exact k1
theorem wl_mshare1 {d : Nat} {X : Nat × (Nat → Int32)} {S : Nat → Nat → Int32} {L : Nat → Int64} {j t : Nat} {q A : Int32} {x5 x6 : Option Value} {Q : Option Value → am_H → Prop}  (x1 : ¬ (S 285 7) ≤ (nI j) → (15 + j) < 39) (x2 : ¬ (S 285 7) ≤ (nI j) → (S 293 (15 + j)) = 2 → (27 + j) < 39) (k1 : (S 285 7) ≤ (nI j) → ¬ A = 0 → am_ex (d + 6) 208 87 [some (.ref 285), some (.int (nI t)), some (.int q), some (.int A), some (.int q), some (.int 0), x6] [] (am_hh X S L) Q) (k2 : (S 285 7) ≤ (nI j) → A = 0 → am_ex (d + 6) 208 87 [some (.ref 285), some (.int (nI t)), some (.int q), some (.int A), some (.int 0), some (.int 0), x6] [] (am_hh X S L) Q) (k3 : ¬ (S 285 7) ≤ (nI j) → ¬ (S 293 (15 + j)) = 2 → am_ex (d + 6) 208 27 [some (.ref 285), some (.int (nI t)), some (.int q), some (.int (A + 0)), some (.int (nI (j + 1))), x5, x6] [] (am_hh X S L) Q) (k4 : ¬ (S 285 7) ≤ (nI j) → (S 293 (15 + j)) = 2 → am_ex (d + 6) 208 27 [some (.ref 285), some (.int (nI t)), some (.int q), some (.int (A + (S 293 (27 + j)))), some (.int (nI (j + 1))), x5, x6] [] (am_hh X S L) Q) : am_ex (d + 6) 208 27 [some (.ref 285), some (.int (nI t)), some (.int q), some (.int A), some (.int (nI j)), x5, x6] [] (am_hh X S L) Q := by
  refine ax_s (pc' := 29) (st' := [.int (nI j)]) rfl rfl rfl rfl ?_
  refine ax_s (pc' := 30) (st' := [.ref 285, .int (nI j)]) rfl rfl rfl rfl ?_
  refine ax_get rfl (hh_285 _ _ _) rfl rfl rfl ?_
  show am_ex (d + 6) 208 33 [some (.ref 285), some (.int (nI t)), some (.int q), some (.int A), some (.int (nI j)), x5, x6] [.int (S 285 7), .int (nI j)] (am_hh X S L) _
  refine ax_cmp_ge rfl (fun c1 => ?_) (fun c1 => ?_)
  · refine ax_s (pc' := 74) (st' := [.int A]) rfl rfl rfl rfl ?_
    refine ax_if_ne rfl (fun c2 => ?_) (fun c2 => ?_)
    · refine ax_s (pc' := 82) (st' := [.int q]) rfl rfl rfl rfl ?_
      refine ax_s (pc' := 84) (ls' := [some (.ref 285), some (.int (nI t)), some (.int q), some (.int A), some (.int q), x5, x6]) (st' := []) rfl rfl rfl rfl ?_
      refine ax_s (pc' := 85) (st' := [.int 0]) rfl rfl rfl rfl ?_
      refine ax_s (pc' := 87) (ls' := [some (.ref 285), some (.int (nI t)), some (.int q), some (.int A), some (.int q), some (.int 0), x6]) (st' := []) rfl rfl rfl rfl ?_
      exact k1 c1 c2
    · refine ax_s (pc' := 78) (st' := [.int 0]) rfl rfl rfl rfl ?_
      refine ax_s (pc' := 82) (st' := [.int 0]) rfl rfl rfl rfl ?_
      refine ax_s (pc' := 84) (ls' := [some (.ref 285), some (.int (nI t)), some (.int q), some (.int A), some (.int 0), x5, x6]) (st' := []) rfl rfl rfl rfl ?_
      refine ax_s (pc' := 85) (st' := [.int 0]) rfl rfl rfl rfl ?_
      refine ax_s (pc' := 87) (ls' := [some (.ref 285), some (.int (nI t)), some (.int q), some (.int A), some (.int 0), some (.int 0), x6]) (st' := []) rfl rfl rfl rfl ?_
      exact k2 c1 c2
  · refine ax_s (pc' := 37) (st' := [.int A]) rfl rfl rfl rfl ?_
    refine ax_s (pc' := 38) (st' := [.ref 285, .int A]) rfl rfl rfl rfl ?_
    refine ax_get rfl (hh_285 _ _ _) rfl rfl rfl ?_
    show am_ex (d + 6) 208 41 [some (.ref 285), some (.int (nI t)), some (.int q), some (.int A), some (.int (nI j)), x5, x6] [.ref 293, .int A] (am_hh X S L) _
    refine ax_s (pc' := 43) (st' := [.int 15, .ref 293, .int A]) rfl rfl rfl rfl ?_
    refine ax_s (pc' := 45) (st' := [.int (nI j), .int 15, .ref 293, .int A]) rfl rfl rfl rfl ?_
    refine ax_s (pc' := 46) (st' := [.int (15 + (nI j)), .ref 293, .int A]) rfl rfl rfl rfl ?_
    refine ax_ald (j := (15 + j)) (v := (S 293 (15 + j))) rfl (hh_293 _ _ _) rfl (am_na (x := 15) (y := j) rfl rfl) (x1 c1) (by decide) rfl ?_
    refine ax_s (pc' := 48) (st' := [.int 2, .int (S 293 (15 + j)), .int A]) rfl rfl rfl rfl ?_
    refine ax_cmp_ne rfl (fun c3 => ?_) (fun c3 => ?_)
    · refine ax_s (pc' := 65) (st' := [.int 0, .int A]) rfl rfl rfl rfl ?_
      refine ax_s (pc' := 66) (st' := [.int (A + 0)]) rfl rfl rfl rfl ?_
      refine ax_s (pc' := 67) (ls' := [some (.ref 285), some (.int (nI t)), some (.int q), some (.int (A + 0)), some (.int (nI j)), x5, x6]) (st' := []) rfl rfl rfl rfl ?_
      refine ax_s (pc' := 70) (ls' := [some (.ref 285), some (.int (nI t)), some (.int q), some (.int (A + 0)), some (.int ((nI j) + 1)), x5, x6]) (st' := []) rfl rfl rfl rfl ?_
      rw [nI_1]
      refine ax_s (pc' := 27) (st' := []) rfl rfl rfl rfl ?_
      exact k3 c1 c3
    · refine ax_s (pc' := 52) (st' := [.ref 285, .int A]) rfl rfl rfl rfl ?_
      refine ax_get rfl (hh_285 _ _ _) rfl rfl rfl ?_
      show am_ex (d + 6) 208 55 [some (.ref 285), some (.int (nI t)), some (.int q), some (.int A), some (.int (nI j)), x5, x6] [.ref 293, .int A] (am_hh X S L) _
      refine ax_s (pc' := 57) (st' := [.int 27, .ref 293, .int A]) rfl rfl rfl rfl ?_
      refine ax_s (pc' := 59) (st' := [.int (nI j), .int 27, .ref 293, .int A]) rfl rfl rfl rfl ?_
      refine ax_s (pc' := 60) (st' := [.int (27 + (nI j)), .ref 293, .int A]) rfl rfl rfl rfl ?_
      refine ax_ald (j := (27 + j)) (v := (S 293 (27 + j))) rfl (hh_293 _ _ _) rfl (am_na (x := 27) (y := j) rfl rfl) (x2 c1 c3) (by decide) rfl ?_
      refine ax_s (pc' := 65) (st' := [.int (S 293 (27 + j)), .int A]) rfl rfl rfl rfl ?_
      refine ax_s (pc' := 66) (st' := [.int (A + (S 293 (27 + j)))]) rfl rfl rfl rfl ?_
      refine ax_s (pc' := 67) (ls' := [some (.ref 285), some (.int (nI t)), some (.int q), some (.int (A + (S 293 (27 + j)))), some (.int (nI j)), x5, x6]) (st' := []) rfl rfl rfl rfl ?_
      refine ax_s (pc' := 70) (ls' := [some (.ref 285), some (.int (nI t)), some (.int q), some (.int (A + (S 293 (27 + j)))), some (.int ((nI j) + 1)), x5, x6]) (st' := []) rfl rfl rfl rfl ?_
      rw [nI_1]
      refine ax_s (pc' := 27) (st' := []) rfl rfl rfl rfl ?_
      exact k4 c1 c3
theorem wl_mshare2 {d : Nat} {X : Nat × (Nat → Int32)} {S : Nat → Nat → Int32} {L : Nat → Int64} {j t : Nat} {q A x : Int32} {x6 : Option Value} {Q : Option Value → am_H → Prop}  (x1 : ¬ (S 285 7) ≤ (nI j) → ¬ A = 0 → (15 + j) < 39) (x2 : ¬ (S 285 7) ≤ (nI j) → ¬ A = 0 → (S 293 (15 + j)) = 2 → (27 + j) < 39) (x3 : ¬ (S 285 7) ≤ (nI j) → ¬ A = 0 → (S 293 (15 + j)) = 2 → ¬ A = 0) (k1 : (S 285 7) ≤ (nI j) → am_ex (d + 6) 208 121 [some (.ref 285), some (.int (nI t)), some (.int q), some (.int A), some (.int x), some (.int 0), some (.int 0)] [] (am_hh X S L) Q) (k2 : ¬ (S 285 7) ≤ (nI j) → A = 0 → am_ex (d + 6) 208 87 [some (.ref 285), some (.int (nI t)), some (.int q), some (.int A), some (.int (x - 0)), some (.int (nI (j + 1))), x6] [] (am_hh X S L) Q) (k3 : ¬ (S 285 7) ≤ (nI j) → ¬ A = 0 → (S 293 (15 + j)) = 2 → am_ex (d + 6) 208 87 [some (.ref 285), some (.int (nI t)), some (.int q), some (.int A), some (.int (x - ((q * (S 293 (27 + j))) / A))), some (.int (nI (j + 1))), x6] [] (am_hh X S L) Q) (k4 : ¬ (S 285 7) ≤ (nI j) → ¬ A = 0 → ¬ (S 293 (15 + j)) = 2 → am_ex (d + 6) 208 87 [some (.ref 285), some (.int (nI t)), some (.int q), some (.int A), some (.int (x - 0)), some (.int (nI (j + 1))), x6] [] (am_hh X S L) Q) : am_ex (d + 6) 208 87 [some (.ref 285), some (.int (nI t)), some (.int q), some (.int A), some (.int x), some (.int (nI j)), x6] [] (am_hh X S L) Q := by
  refine ax_s (pc' := 89) (st' := [.int (nI j)]) rfl rfl rfl rfl ?_
  refine ax_s (pc' := 90) (st' := [.ref 285, .int (nI j)]) rfl rfl rfl rfl ?_
  refine ax_get rfl (hh_285 _ _ _) rfl rfl rfl ?_
  show am_ex (d + 6) 208 93 [some (.ref 285), some (.int (nI t)), some (.int q), some (.int A), some (.int x), some (.int (nI j)), x6] [.int (S 285 7), .int (nI j)] (am_hh X S L) _
  refine ax_cmp_ge rfl (fun c1 => ?_) (fun c1 => ?_)
  · refine ax_s (pc' := 116) (st' := [.int 0]) rfl rfl rfl rfl ?_
    refine ax_s (pc' := 118) (ls' := [some (.ref 285), some (.int (nI t)), some (.int q), some (.int A), some (.int x), some (.int 0), x6]) (st' := []) rfl rfl rfl rfl ?_
    refine ax_s (pc' := 119) (st' := [.int 0]) rfl rfl rfl rfl ?_
    refine ax_s (pc' := 121) (ls' := [some (.ref 285), some (.int (nI t)), some (.int q), some (.int A), some (.int x), some (.int 0), some (.int 0)]) (st' := []) rfl rfl rfl rfl ?_
    exact k1 c1
  · refine ax_s (pc' := 98) (st' := [.int x]) rfl rfl rfl rfl ?_
    refine ax_s (pc' := 99) (st' := [.ref 285, .int x]) rfl rfl rfl rfl ?_
    refine ax_s (pc' := 101) (st' := [.int (nI j), .ref 285, .int x]) rfl rfl rfl rfl ?_
    refine ax_s (pc' := 102) (st' := [.int q, .int (nI j), .ref 285, .int x]) rfl rfl rfl rfl ?_
    refine ax_s (pc' := 103) (st' := [.int A, .int q, .int (nI j), .ref 285, .int x]) rfl rfl rfl rfl ?_
    refine ax_call (vs := [.ref 285, .int (nI j), .int q, .int A]) (rr := [.int x]) rfl rfl rfl ?_
    refine ax_in (ls := [some (.ref 285), some (.int (nI j)), some (.int q), some (.int A)]) rfl ?_
    refine ax_s (pc' := 1) (st' := [.int A]) rfl rfl rfl rfl ?_
    refine ax_if_eq rfl (fun c2 => ?_) (fun c2 => ?_)
    · refine ax_s (pc' := 18) (st' := [.int 0]) rfl rfl rfl rfl ?_
      refine ax_s (pc' := 34) (st' := [.int 0]) rfl rfl rfl rfl ?_
      refine ax_r rfl rfl rfl ?_
      show am_ex (d + 6) 208 106 [some (.ref 285), some (.int (nI t)), some (.int q), some (.int A), some (.int x), some (.int (nI j)), x6] [.int 0, .int x] (am_hh X S L) _
      refine ax_s (pc' := 107) (st' := [.int (x - 0)]) rfl rfl rfl rfl ?_
      refine ax_s (pc' := 109) (ls' := [some (.ref 285), some (.int (nI t)), some (.int q), some (.int A), some (.int (x - 0)), some (.int (nI j)), x6]) (st' := []) rfl rfl rfl rfl ?_
      refine ax_s (pc' := 112) (ls' := [some (.ref 285), some (.int (nI t)), some (.int q), some (.int A), some (.int (x - 0)), some (.int ((nI j) + 1)), x6]) (st' := []) rfl rfl rfl rfl ?_
      rw [nI_1]
      refine ax_s (pc' := 87) (st' := []) rfl rfl rfl rfl ?_
      exact k2 c1 c2
    · refine ax_s (pc' := 5) (st' := [.ref 285]) rfl rfl rfl rfl ?_
      refine ax_get rfl (hh_285 _ _ _) rfl rfl rfl ?_
      show am_ex (d + 5) 209 8 [some (.ref 285), some (.int (nI j)), some (.int q), some (.int A)] [.ref 293] (am_hh X S L) _
      refine ax_s (pc' := 10) (st' := [.int 15, .ref 293]) rfl rfl rfl rfl ?_
      refine ax_s (pc' := 11) (st' := [.int (nI j), .int 15, .ref 293]) rfl rfl rfl rfl ?_
      refine ax_s (pc' := 12) (st' := [.int (15 + (nI j)), .ref 293]) rfl rfl rfl rfl ?_
      refine ax_ald (j := (15 + j)) (v := (S 293 (15 + j))) rfl (hh_293 _ _ _) rfl (am_na (x := 15) (y := j) rfl rfl) (x1 c1 c2) (by decide) rfl ?_
      refine ax_s (pc' := 14) (st' := [.int 2, .int (S 293 (15 + j))]) rfl rfl rfl rfl ?_
      refine ax_cmp_eq rfl (fun c3 => ?_) (fun c3 => ?_)
      · refine ax_s (pc' := 22) (st' := [.int q]) rfl rfl rfl rfl ?_
        refine ax_s (pc' := 23) (st' := [.ref 285, .int q]) rfl rfl rfl rfl ?_
        refine ax_get rfl (hh_285 _ _ _) rfl rfl rfl ?_
        show am_ex (d + 5) 209 26 [some (.ref 285), some (.int (nI j)), some (.int q), some (.int A)] [.ref 293, .int q] (am_hh X S L) _
        refine ax_s (pc' := 28) (st' := [.int 27, .ref 293, .int q]) rfl rfl rfl rfl ?_
        refine ax_s (pc' := 29) (st' := [.int (nI j), .int 27, .ref 293, .int q]) rfl rfl rfl rfl ?_
        refine ax_s (pc' := 30) (st' := [.int (27 + (nI j)), .ref 293, .int q]) rfl rfl rfl rfl ?_
        refine ax_ald (j := (27 + j)) (v := (S 293 (27 + j))) rfl (hh_293 _ _ _) rfl (am_na (x := 27) (y := j) rfl rfl) (x2 c1 c2 c3) (by decide) rfl ?_
        refine ax_s (pc' := 32) (st' := [.int (q * (S 293 (27 + j)))]) rfl rfl rfl rfl ?_
        refine ax_s (pc' := 33) (st' := [.int A, .int (q * (S 293 (27 + j)))]) rfl rfl rfl rfl ?_
        refine ax_idiv rfl (x3 c1 c2 c3) ?_
        refine ax_r rfl rfl rfl ?_
        show am_ex (d + 6) 208 106 [some (.ref 285), some (.int (nI t)), some (.int q), some (.int A), some (.int x), some (.int (nI j)), x6] [.int ((q * (S 293 (27 + j))) / A), .int x] (am_hh X S L) _
        refine ax_s (pc' := 107) (st' := [.int (x - ((q * (S 293 (27 + j))) / A))]) rfl rfl rfl rfl ?_
        refine ax_s (pc' := 109) (ls' := [some (.ref 285), some (.int (nI t)), some (.int q), some (.int A), some (.int (x - ((q * (S 293 (27 + j))) / A))), some (.int (nI j)), x6]) (st' := []) rfl rfl rfl rfl ?_
        refine ax_s (pc' := 112) (ls' := [some (.ref 285), some (.int (nI t)), some (.int q), some (.int A), some (.int (x - ((q * (S 293 (27 + j))) / A))), some (.int ((nI j) + 1)), x6]) (st' := []) rfl rfl rfl rfl ?_
        rw [nI_1]
        refine ax_s (pc' := 87) (st' := []) rfl rfl rfl rfl ?_
        exact k3 c1 c2 c3
      · refine ax_s (pc' := 18) (st' := [.int 0]) rfl rfl rfl rfl ?_
        refine ax_s (pc' := 34) (st' := [.int 0]) rfl rfl rfl rfl ?_
        refine ax_r rfl rfl rfl ?_
        show am_ex (d + 6) 208 106 [some (.ref 285), some (.int (nI t)), some (.int q), some (.int A), some (.int x), some (.int (nI j)), x6] [.int 0, .int x] (am_hh X S L) _
        refine ax_s (pc' := 107) (st' := [.int (x - 0)]) rfl rfl rfl rfl ?_
        refine ax_s (pc' := 109) (ls' := [some (.ref 285), some (.int (nI t)), some (.int q), some (.int A), some (.int (x - 0)), some (.int (nI j)), x6]) (st' := []) rfl rfl rfl rfl ?_
        refine ax_s (pc' := 112) (ls' := [some (.ref 285), some (.int (nI t)), some (.int q), some (.int A), some (.int (x - 0)), some (.int ((nI j) + 1)), x6]) (st' := []) rfl rfl rfl rfl ?_
        rw [nI_1]
        refine ax_s (pc' := 87) (st' := []) rfl rfl rfl rfl ?_
        exact k4 c1 c2 c3
theorem wl_mshare3 {d : Nat} {X : Nat × (Nat → Int32)} {S : Nat → Nat → Int32} {L : Nat → Int64} {j t : Nat} {q A x y : Int32} {Q : Option Value → am_H → Prop}  (x1 : (nI t) ≤ (nI j) → (15 + t) < 39) (x2 : (nI t) ≤ (nI j) → (S 293 (15 + t)) = 2 → (27 + t) < 39) (x3 : (nI t) ≤ (nI j) → (S 293 (15 + t)) = 2 → (S 293 (27 + t)) ≤ 0 → ¬ A = 0 → ¬ A = 0) (x4 : (nI t) ≤ (nI j) → (S 293 (15 + t)) = 2 → ¬ (S 293 (27 + t)) ≤ 0 → ¬ A = 0 → ¬ A = 0) (x5 : ¬ (nI t) ≤ (nI j) → (15 + j) < 39) (x6 : ¬ (nI t) ≤ (nI j) → (S 293 (15 + j)) = 2 → (27 + j) < 39) (k1 : (nI t) ≤ (nI j) → ¬ (S 293 (15 + t)) = 2 → A = 0 → Q (some (.int 0)) (am_hh X S L)) (k2 : (nI t) ≤ (nI j) → ¬ (S 293 (15 + t)) = 2 → ¬ A = 0 → Q (some (.int 0)) (am_hh X S L)) (k3 : (nI t) ≤ (nI j) → (S 293 (15 + t)) = 2 → (S 293 (27 + t)) ≤ 0 → A = 0 → Q (some (.int 0)) (am_hh X S L)) (k4 : (nI t) ≤ (nI j) → (S 293 (15 + t)) = 2 → (S 293 (27 + t)) ≤ 0 → ¬ A = 0 → Q (some (.int (((q * (S 293 (27 + t))) / A) + 0))) (am_hh X S L)) (k5 : (nI t) ≤ (nI j) → (S 293 (15 + t)) = 2 → ¬ (S 293 (27 + t)) ≤ 0 → A = 0 → x ≤ y → Q (some (.int 0)) (am_hh X S L)) (k6 : (nI t) ≤ (nI j) → (S 293 (15 + t)) = 2 → ¬ (S 293 (27 + t)) ≤ 0 → A = 0 → ¬ x ≤ y → Q (some (.int 1)) (am_hh X S L)) (k7 : (nI t) ≤ (nI j) → (S 293 (15 + t)) = 2 → ¬ (S 293 (27 + t)) ≤ 0 → ¬ A = 0 → x ≤ y → Q (some (.int (((q * (S 293 (27 + t))) / A) + 0))) (am_hh X S L)) (k8 : (nI t) ≤ (nI j) → (S 293 (15 + t)) = 2 → ¬ (S 293 (27 + t)) ≤ 0 → ¬ A = 0 → ¬ x ≤ y → Q (some (.int (((q * (S 293 (27 + t))) / A) + 1))) (am_hh X S L)) (k9 : ¬ (nI t) ≤ (nI j) → ¬ (S 293 (15 + j)) = 2 → am_ex (d + 6) 208 121 [some (.ref 285), some (.int (nI t)), some (.int q), some (.int A), some (.int x), some (.int (y + 0)), some (.int (nI (j + 1)))] [] (am_hh X S L) Q) (k10 : ¬ (nI t) ≤ (nI j) → (S 293 (15 + j)) = 2 → (S 293 (27 + j)) ≤ 0 → am_ex (d + 6) 208 121 [some (.ref 285), some (.int (nI t)), some (.int q), some (.int A), some (.int x), some (.int (y + 0)), some (.int (nI (j + 1)))] [] (am_hh X S L) Q) (k11 : ¬ (nI t) ≤ (nI j) → (S 293 (15 + j)) = 2 → ¬ (S 293 (27 + j)) ≤ 0 → am_ex (d + 6) 208 121 [some (.ref 285), some (.int (nI t)), some (.int q), some (.int A), some (.int x), some (.int (y + 1)), some (.int (nI (j + 1)))] [] (am_hh X S L) Q) : am_ex (d + 6) 208 121 [some (.ref 285), some (.int (nI t)), some (.int q), some (.int A), some (.int x), some (.int y), some (.int (nI j))] [] (am_hh X S L) Q := by
  refine ax_s (pc' := 123) (st' := [.int (nI j)]) rfl rfl rfl rfl ?_
  refine ax_s (pc' := 124) (st' := [.int (nI t), .int (nI j)]) rfl rfl rfl rfl ?_
  refine ax_cmp_ge rfl (fun c1 => ?_) (fun c1 => ?_)
  · refine ax_s (pc' := 171) (st' := [.ref 285]) rfl rfl rfl rfl ?_
    refine ax_get rfl (hh_285 _ _ _) rfl rfl rfl ?_
    show am_ex (d + 6) 208 174 [some (.ref 285), some (.int (nI t)), some (.int q), some (.int A), some (.int x), some (.int y), some (.int (nI j))] [.ref 293] (am_hh X S L) _
    refine ax_s (pc' := 176) (st' := [.int 15, .ref 293]) rfl rfl rfl rfl ?_
    refine ax_s (pc' := 177) (st' := [.int (nI t), .int 15, .ref 293]) rfl rfl rfl rfl ?_
    refine ax_s (pc' := 178) (st' := [.int (15 + (nI t)), .ref 293]) rfl rfl rfl rfl ?_
    refine ax_ald (j := (15 + t)) (v := (S 293 (15 + t))) rfl (hh_293 _ _ _) rfl (am_na (x := 15) (y := t) rfl rfl) (x1 c1) (by decide) rfl ?_
    refine ax_s (pc' := 180) (st' := [.int 2, .int (S 293 (15 + t))]) rfl rfl rfl rfl ?_
    refine ax_cmp_ne rfl (fun c2 => ?_) (fun c2 => ?_)
    · refine ax_s (pc' := 200) (st' := [.int 0]) rfl rfl rfl rfl ?_
      refine ax_s (pc' := 202) (ls' := [some (.ref 285), some (.int (nI t)), some (.int q), some (.int A), some (.int x), some (.int y), some (.int 0)]) (st' := []) rfl rfl rfl rfl ?_
      refine ax_s (pc' := 203) (st' := [.ref 285]) rfl rfl rfl rfl ?_
      refine ax_s (pc' := 204) (st' := [.int (nI t), .ref 285]) rfl rfl rfl rfl ?_
      refine ax_s (pc' := 205) (st' := [.int q, .int (nI t), .ref 285]) rfl rfl rfl rfl ?_
      refine ax_s (pc' := 206) (st' := [.int A, .int q, .int (nI t), .ref 285]) rfl rfl rfl rfl ?_
      refine ax_call (vs := [.ref 285, .int (nI t), .int q, .int A]) (rr := []) rfl rfl rfl ?_
      refine ax_in (ls := [some (.ref 285), some (.int (nI t)), some (.int q), some (.int A)]) rfl ?_
      refine ax_s (pc' := 1) (st' := [.int A]) rfl rfl rfl rfl ?_
      refine ax_if_eq rfl (fun c3 => ?_) (fun c3 => ?_)
      · refine ax_s (pc' := 18) (st' := [.int 0]) rfl rfl rfl rfl ?_
        refine ax_s (pc' := 34) (st' := [.int 0]) rfl rfl rfl rfl ?_
        refine ax_r rfl rfl rfl ?_
        show am_ex (d + 6) 208 209 [some (.ref 285), some (.int (nI t)), some (.int q), some (.int A), some (.int x), some (.int y), some (.int 0)] [.int 0] (am_hh X S L) _
        refine ax_s (pc' := 211) (st' := [.int 0, .int 0]) rfl rfl rfl rfl ?_
        refine ax_if_eq rfl (fun c4 => ?_) (fun c4 => False.elim (by revert c4; decide))
        refine ax_s (pc' := 226) (st' := [.int 0, .int 0]) rfl rfl rfl rfl ?_
        refine ax_s (pc' := 227) (st' := [.int 0]) rfl rfl rfl rfl ?_
        refine ax_r rfl rfl rfl ?_
        exact k1 c1 c2 c3
      · refine ax_s (pc' := 5) (st' := [.ref 285]) rfl rfl rfl rfl ?_
        refine ax_get rfl (hh_285 _ _ _) rfl rfl rfl ?_
        show am_ex (d + 5) 209 8 [some (.ref 285), some (.int (nI t)), some (.int q), some (.int A)] [.ref 293] (am_hh X S L) _
        refine ax_s (pc' := 10) (st' := [.int 15, .ref 293]) rfl rfl rfl rfl ?_
        refine ax_s (pc' := 11) (st' := [.int (nI t), .int 15, .ref 293]) rfl rfl rfl rfl ?_
        refine ax_s (pc' := 12) (st' := [.int (15 + (nI t)), .ref 293]) rfl rfl rfl rfl ?_
        refine ax_ald (j := (15 + t)) (v := (S 293 (15 + t))) rfl (hh_293 _ _ _) rfl (am_na (x := 15) (y := t) rfl rfl) (x1 c1) (by decide) rfl ?_
        refine ax_s (pc' := 14) (st' := [.int 2, .int (S 293 (15 + t))]) rfl rfl rfl rfl ?_
        refine ax_cmp_eq rfl (fun c5 => False.elim (by first | exact c5 c2 | exact c2 c5)) (fun c5 => ?_)
        refine ax_s (pc' := 18) (st' := [.int 0]) rfl rfl rfl rfl ?_
        refine ax_s (pc' := 34) (st' := [.int 0]) rfl rfl rfl rfl ?_
        refine ax_r rfl rfl rfl ?_
        show am_ex (d + 6) 208 209 [some (.ref 285), some (.int (nI t)), some (.int q), some (.int A), some (.int x), some (.int y), some (.int 0)] [.int 0] (am_hh X S L) _
        refine ax_s (pc' := 211) (st' := [.int 0, .int 0]) rfl rfl rfl rfl ?_
        refine ax_if_eq rfl (fun c6 => ?_) (fun c6 => False.elim (by revert c6; decide))
        refine ax_s (pc' := 226) (st' := [.int 0, .int 0]) rfl rfl rfl rfl ?_
        refine ax_s (pc' := 227) (st' := [.int 0]) rfl rfl rfl rfl ?_
        refine ax_r rfl rfl rfl ?_
        exact k2 c1 c2 c3
    · refine ax_s (pc' := 184) (st' := [.ref 285]) rfl rfl rfl rfl ?_
      refine ax_get rfl (hh_285 _ _ _) rfl rfl rfl ?_
      show am_ex (d + 6) 208 187 [some (.ref 285), some (.int (nI t)), some (.int q), some (.int A), some (.int x), some (.int y), some (.int (nI j))] [.ref 293] (am_hh X S L) _
      refine ax_s (pc' := 189) (st' := [.int 27, .ref 293]) rfl rfl rfl rfl ?_
      refine ax_s (pc' := 190) (st' := [.int (nI t), .int 27, .ref 293]) rfl rfl rfl rfl ?_
      refine ax_s (pc' := 191) (st' := [.int (27 + (nI t)), .ref 293]) rfl rfl rfl rfl ?_
      refine ax_ald (j := (27 + t)) (v := (S 293 (27 + t))) rfl (hh_293 _ _ _) rfl (am_na (x := 27) (y := t) rfl rfl) (x2 c1 c2) (by decide) rfl ?_
      refine ax_if_le rfl (fun c7 => ?_) (fun c7 => ?_)
      · refine ax_s (pc' := 200) (st' := [.int 0]) rfl rfl rfl rfl ?_
        refine ax_s (pc' := 202) (ls' := [some (.ref 285), some (.int (nI t)), some (.int q), some (.int A), some (.int x), some (.int y), some (.int 0)]) (st' := []) rfl rfl rfl rfl ?_
        refine ax_s (pc' := 203) (st' := [.ref 285]) rfl rfl rfl rfl ?_
        refine ax_s (pc' := 204) (st' := [.int (nI t), .ref 285]) rfl rfl rfl rfl ?_
        refine ax_s (pc' := 205) (st' := [.int q, .int (nI t), .ref 285]) rfl rfl rfl rfl ?_
        refine ax_s (pc' := 206) (st' := [.int A, .int q, .int (nI t), .ref 285]) rfl rfl rfl rfl ?_
        refine ax_call (vs := [.ref 285, .int (nI t), .int q, .int A]) (rr := []) rfl rfl rfl ?_
        refine ax_in (ls := [some (.ref 285), some (.int (nI t)), some (.int q), some (.int A)]) rfl ?_
        refine ax_s (pc' := 1) (st' := [.int A]) rfl rfl rfl rfl ?_
        refine ax_if_eq rfl (fun c8 => ?_) (fun c8 => ?_)
        · refine ax_s (pc' := 18) (st' := [.int 0]) rfl rfl rfl rfl ?_
          refine ax_s (pc' := 34) (st' := [.int 0]) rfl rfl rfl rfl ?_
          refine ax_r rfl rfl rfl ?_
          show am_ex (d + 6) 208 209 [some (.ref 285), some (.int (nI t)), some (.int q), some (.int A), some (.int x), some (.int y), some (.int 0)] [.int 0] (am_hh X S L) _
          refine ax_s (pc' := 211) (st' := [.int 0, .int 0]) rfl rfl rfl rfl ?_
          refine ax_if_eq rfl (fun c9 => ?_) (fun c9 => False.elim (by revert c9; decide))
          refine ax_s (pc' := 226) (st' := [.int 0, .int 0]) rfl rfl rfl rfl ?_
          refine ax_s (pc' := 227) (st' := [.int 0]) rfl rfl rfl rfl ?_
          refine ax_r rfl rfl rfl ?_
          exact k3 c1 c2 c7 c8
        · refine ax_s (pc' := 5) (st' := [.ref 285]) rfl rfl rfl rfl ?_
          refine ax_get rfl (hh_285 _ _ _) rfl rfl rfl ?_
          show am_ex (d + 5) 209 8 [some (.ref 285), some (.int (nI t)), some (.int q), some (.int A)] [.ref 293] (am_hh X S L) _
          refine ax_s (pc' := 10) (st' := [.int 15, .ref 293]) rfl rfl rfl rfl ?_
          refine ax_s (pc' := 11) (st' := [.int (nI t), .int 15, .ref 293]) rfl rfl rfl rfl ?_
          refine ax_s (pc' := 12) (st' := [.int (15 + (nI t)), .ref 293]) rfl rfl rfl rfl ?_
          refine ax_ald (j := (15 + t)) (v := (S 293 (15 + t))) rfl (hh_293 _ _ _) rfl (am_na (x := 15) (y := t) rfl rfl) (x1 c1) (by decide) rfl ?_
          refine ax_s (pc' := 14) (st' := [.int 2, .int (S 293 (15 + t))]) rfl rfl rfl rfl ?_
          refine ax_cmp_eq rfl (fun c10 => ?_) (fun c10 => False.elim (by first | exact c10 c2 | exact c2 c10))
          refine ax_s (pc' := 22) (st' := [.int q]) rfl rfl rfl rfl ?_
          refine ax_s (pc' := 23) (st' := [.ref 285, .int q]) rfl rfl rfl rfl ?_
          refine ax_get rfl (hh_285 _ _ _) rfl rfl rfl ?_
          show am_ex (d + 5) 209 26 [some (.ref 285), some (.int (nI t)), some (.int q), some (.int A)] [.ref 293, .int q] (am_hh X S L) _
          refine ax_s (pc' := 28) (st' := [.int 27, .ref 293, .int q]) rfl rfl rfl rfl ?_
          refine ax_s (pc' := 29) (st' := [.int (nI t), .int 27, .ref 293, .int q]) rfl rfl rfl rfl ?_
          refine ax_s (pc' := 30) (st' := [.int (27 + (nI t)), .ref 293, .int q]) rfl rfl rfl rfl ?_
          refine ax_ald (j := (27 + t)) (v := (S 293 (27 + t))) rfl (hh_293 _ _ _) rfl (am_na (x := 27) (y := t) rfl rfl) (x2 c1 c2) (by decide) rfl ?_
          refine ax_s (pc' := 32) (st' := [.int (q * (S 293 (27 + t)))]) rfl rfl rfl rfl ?_
          refine ax_s (pc' := 33) (st' := [.int A, .int (q * (S 293 (27 + t)))]) rfl rfl rfl rfl ?_
          refine ax_idiv rfl (x3 c1 c2 c7 c8) ?_
          refine ax_r rfl rfl rfl ?_
          show am_ex (d + 6) 208 209 [some (.ref 285), some (.int (nI t)), some (.int q), some (.int A), some (.int x), some (.int y), some (.int 0)] [.int ((q * (S 293 (27 + t))) / A)] (am_hh X S L) _
          refine ax_s (pc' := 211) (st' := [.int 0, .int ((q * (S 293 (27 + t))) / A)]) rfl rfl rfl rfl ?_
          refine ax_if_eq rfl (fun c11 => ?_) (fun c11 => False.elim (by revert c11; decide))
          refine ax_s (pc' := 226) (st' := [.int 0, .int ((q * (S 293 (27 + t))) / A)]) rfl rfl rfl rfl ?_
          refine ax_s (pc' := 227) (st' := [.int (((q * (S 293 (27 + t))) / A) + 0)]) rfl rfl rfl rfl ?_
          refine ax_r rfl rfl rfl ?_
          exact k4 c1 c2 c7 c8
      · refine ax_s (pc' := 196) (st' := [.int 1]) rfl rfl rfl rfl ?_
        refine ax_s (pc' := 200) (st' := [.int 1]) rfl rfl rfl rfl ?_
        refine ax_s (pc' := 202) (ls' := [some (.ref 285), some (.int (nI t)), some (.int q), some (.int A), some (.int x), some (.int y), some (.int 1)]) (st' := []) rfl rfl rfl rfl ?_
        refine ax_s (pc' := 203) (st' := [.ref 285]) rfl rfl rfl rfl ?_
        refine ax_s (pc' := 204) (st' := [.int (nI t), .ref 285]) rfl rfl rfl rfl ?_
        refine ax_s (pc' := 205) (st' := [.int q, .int (nI t), .ref 285]) rfl rfl rfl rfl ?_
        refine ax_s (pc' := 206) (st' := [.int A, .int q, .int (nI t), .ref 285]) rfl rfl rfl rfl ?_
        refine ax_call (vs := [.ref 285, .int (nI t), .int q, .int A]) (rr := []) rfl rfl rfl ?_
        refine ax_in (ls := [some (.ref 285), some (.int (nI t)), some (.int q), some (.int A)]) rfl ?_
        refine ax_s (pc' := 1) (st' := [.int A]) rfl rfl rfl rfl ?_
        refine ax_if_eq rfl (fun c12 => ?_) (fun c12 => ?_)
        · refine ax_s (pc' := 18) (st' := [.int 0]) rfl rfl rfl rfl ?_
          refine ax_s (pc' := 34) (st' := [.int 0]) rfl rfl rfl rfl ?_
          refine ax_r rfl rfl rfl ?_
          show am_ex (d + 6) 208 209 [some (.ref 285), some (.int (nI t)), some (.int q), some (.int A), some (.int x), some (.int y), some (.int 1)] [.int 0] (am_hh X S L) _
          refine ax_s (pc' := 211) (st' := [.int 1, .int 0]) rfl rfl rfl rfl ?_
          refine ax_if_eq rfl (fun c13 => False.elim (by revert c13; decide)) (fun c13 => ?_)
          refine ax_s (pc' := 216) (st' := [.int y, .int 0]) rfl rfl rfl rfl ?_
          refine ax_s (pc' := 218) (st' := [.int x, .int y, .int 0]) rfl rfl rfl rfl ?_
          refine ax_cmp_ge rfl (fun c14 => ?_) (fun c14 => ?_)
          · refine ax_s (pc' := 226) (st' := [.int 0, .int 0]) rfl rfl rfl rfl ?_
            refine ax_s (pc' := 227) (st' := [.int 0]) rfl rfl rfl rfl ?_
            refine ax_r rfl rfl rfl ?_
            exact k5 c1 c2 c7 c12 c14
          · refine ax_s (pc' := 222) (st' := [.int 1, .int 0]) rfl rfl rfl rfl ?_
            refine ax_s (pc' := 226) (st' := [.int 1, .int 0]) rfl rfl rfl rfl ?_
            refine ax_s (pc' := 227) (st' := [.int 1]) rfl rfl rfl rfl ?_
            refine ax_r rfl rfl rfl ?_
            exact k6 c1 c2 c7 c12 c14
        · refine ax_s (pc' := 5) (st' := [.ref 285]) rfl rfl rfl rfl ?_
          refine ax_get rfl (hh_285 _ _ _) rfl rfl rfl ?_
          show am_ex (d + 5) 209 8 [some (.ref 285), some (.int (nI t)), some (.int q), some (.int A)] [.ref 293] (am_hh X S L) _
          refine ax_s (pc' := 10) (st' := [.int 15, .ref 293]) rfl rfl rfl rfl ?_
          refine ax_s (pc' := 11) (st' := [.int (nI t), .int 15, .ref 293]) rfl rfl rfl rfl ?_
          refine ax_s (pc' := 12) (st' := [.int (15 + (nI t)), .ref 293]) rfl rfl rfl rfl ?_
          refine ax_ald (j := (15 + t)) (v := (S 293 (15 + t))) rfl (hh_293 _ _ _) rfl (am_na (x := 15) (y := t) rfl rfl) (x1 c1) (by decide) rfl ?_
          refine ax_s (pc' := 14) (st' := [.int 2, .int (S 293 (15 + t))]) rfl rfl rfl rfl ?_
          refine ax_cmp_eq rfl (fun c15 => ?_) (fun c15 => False.elim (by first | exact c15 c2 | exact c2 c15))
          refine ax_s (pc' := 22) (st' := [.int q]) rfl rfl rfl rfl ?_
          refine ax_s (pc' := 23) (st' := [.ref 285, .int q]) rfl rfl rfl rfl ?_
          refine ax_get rfl (hh_285 _ _ _) rfl rfl rfl ?_
          show am_ex (d + 5) 209 26 [some (.ref 285), some (.int (nI t)), some (.int q), some (.int A)] [.ref 293, .int q] (am_hh X S L) _
          refine ax_s (pc' := 28) (st' := [.int 27, .ref 293, .int q]) rfl rfl rfl rfl ?_
          refine ax_s (pc' := 29) (st' := [.int (nI t), .int 27, .ref 293, .int q]) rfl rfl rfl rfl ?_
          refine ax_s (pc' := 30) (st' := [.int (27 + (nI t)), .ref 293, .int q]) rfl rfl rfl rfl ?_
          refine ax_ald (j := (27 + t)) (v := (S 293 (27 + t))) rfl (hh_293 _ _ _) rfl (am_na (x := 27) (y := t) rfl rfl) (x2 c1 c2) (by decide) rfl ?_
          refine ax_s (pc' := 32) (st' := [.int (q * (S 293 (27 + t)))]) rfl rfl rfl rfl ?_
          refine ax_s (pc' := 33) (st' := [.int A, .int (q * (S 293 (27 + t)))]) rfl rfl rfl rfl ?_
          refine ax_idiv rfl (x4 c1 c2 c7 c12) ?_
          refine ax_r rfl rfl rfl ?_
          show am_ex (d + 6) 208 209 [some (.ref 285), some (.int (nI t)), some (.int q), some (.int A), some (.int x), some (.int y), some (.int 1)] [.int ((q * (S 293 (27 + t))) / A)] (am_hh X S L) _
          refine ax_s (pc' := 211) (st' := [.int 1, .int ((q * (S 293 (27 + t))) / A)]) rfl rfl rfl rfl ?_
          refine ax_if_eq rfl (fun c16 => False.elim (by revert c16; decide)) (fun c16 => ?_)
          refine ax_s (pc' := 216) (st' := [.int y, .int ((q * (S 293 (27 + t))) / A)]) rfl rfl rfl rfl ?_
          refine ax_s (pc' := 218) (st' := [.int x, .int y, .int ((q * (S 293 (27 + t))) / A)]) rfl rfl rfl rfl ?_
          refine ax_cmp_ge rfl (fun c17 => ?_) (fun c17 => ?_)
          · refine ax_s (pc' := 226) (st' := [.int 0, .int ((q * (S 293 (27 + t))) / A)]) rfl rfl rfl rfl ?_
            refine ax_s (pc' := 227) (st' := [.int (((q * (S 293 (27 + t))) / A) + 0)]) rfl rfl rfl rfl ?_
            refine ax_r rfl rfl rfl ?_
            exact k7 c1 c2 c7 c12 c17
          · refine ax_s (pc' := 222) (st' := [.int 1, .int ((q * (S 293 (27 + t))) / A)]) rfl rfl rfl rfl ?_
            refine ax_s (pc' := 226) (st' := [.int 1, .int ((q * (S 293 (27 + t))) / A)]) rfl rfl rfl rfl ?_
            refine ax_s (pc' := 227) (st' := [.int (((q * (S 293 (27 + t))) / A) + 1)]) rfl rfl rfl rfl ?_
            refine ax_r rfl rfl rfl ?_
            exact k8 c1 c2 c7 c12 c17
  · refine ax_s (pc' := 129) (st' := [.int y]) rfl rfl rfl rfl ?_
    refine ax_s (pc' := 130) (st' := [.ref 285, .int y]) rfl rfl rfl rfl ?_
    refine ax_get rfl (hh_285 _ _ _) rfl rfl rfl ?_
    show am_ex (d + 6) 208 133 [some (.ref 285), some (.int (nI t)), some (.int q), some (.int A), some (.int x), some (.int y), some (.int (nI j))] [.ref 293, .int y] (am_hh X S L) _
    refine ax_s (pc' := 135) (st' := [.int 15, .ref 293, .int y]) rfl rfl rfl rfl ?_
    refine ax_s (pc' := 137) (st' := [.int (nI j), .int 15, .ref 293, .int y]) rfl rfl rfl rfl ?_
    refine ax_s (pc' := 138) (st' := [.int (15 + (nI j)), .ref 293, .int y]) rfl rfl rfl rfl ?_
    refine ax_ald (j := (15 + j)) (v := (S 293 (15 + j))) rfl (hh_293 _ _ _) rfl (am_na (x := 15) (y := j) rfl rfl) (x5 c1) (by decide) rfl ?_
    refine ax_s (pc' := 140) (st' := [.int 2, .int (S 293 (15 + j)), .int y]) rfl rfl rfl rfl ?_
    refine ax_cmp_ne rfl (fun c18 => ?_) (fun c18 => ?_)
    · refine ax_s (pc' := 161) (st' := [.int 0, .int y]) rfl rfl rfl rfl ?_
      refine ax_s (pc' := 162) (st' := [.int (y + 0)]) rfl rfl rfl rfl ?_
      refine ax_s (pc' := 164) (ls' := [some (.ref 285), some (.int (nI t)), some (.int q), some (.int A), some (.int x), some (.int (y + 0)), some (.int (nI j))]) (st' := []) rfl rfl rfl rfl ?_
      refine ax_s (pc' := 167) (ls' := [some (.ref 285), some (.int (nI t)), some (.int q), some (.int A), some (.int x), some (.int (y + 0)), some (.int ((nI j) + 1))]) (st' := []) rfl rfl rfl rfl ?_
      rw [nI_1]
      refine ax_s (pc' := 121) (st' := []) rfl rfl rfl rfl ?_
      exact k9 c1 c18
    · refine ax_s (pc' := 144) (st' := [.ref 285, .int y]) rfl rfl rfl rfl ?_
      refine ax_get rfl (hh_285 _ _ _) rfl rfl rfl ?_
      show am_ex (d + 6) 208 147 [some (.ref 285), some (.int (nI t)), some (.int q), some (.int A), some (.int x), some (.int y), some (.int (nI j))] [.ref 293, .int y] (am_hh X S L) _
      refine ax_s (pc' := 149) (st' := [.int 27, .ref 293, .int y]) rfl rfl rfl rfl ?_
      refine ax_s (pc' := 151) (st' := [.int (nI j), .int 27, .ref 293, .int y]) rfl rfl rfl rfl ?_
      refine ax_s (pc' := 152) (st' := [.int (27 + (nI j)), .ref 293, .int y]) rfl rfl rfl rfl ?_
      refine ax_ald (j := (27 + j)) (v := (S 293 (27 + j))) rfl (hh_293 _ _ _) rfl (am_na (x := 27) (y := j) rfl rfl) (x6 c1 c18) (by decide) rfl ?_
      refine ax_if_le rfl (fun c19 => ?_) (fun c19 => ?_)
      · refine ax_s (pc' := 161) (st' := [.int 0, .int y]) rfl rfl rfl rfl ?_
        refine ax_s (pc' := 162) (st' := [.int (y + 0)]) rfl rfl rfl rfl ?_
        refine ax_s (pc' := 164) (ls' := [some (.ref 285), some (.int (nI t)), some (.int q), some (.int A), some (.int x), some (.int (y + 0)), some (.int (nI j))]) (st' := []) rfl rfl rfl rfl ?_
        refine ax_s (pc' := 167) (ls' := [some (.ref 285), some (.int (nI t)), some (.int q), some (.int A), some (.int x), some (.int (y + 0)), some (.int ((nI j) + 1))]) (st' := []) rfl rfl rfl rfl ?_
        rw [nI_1]
        refine ax_s (pc' := 121) (st' := []) rfl rfl rfl rfl ?_
        exact k10 c1 c18 c19
      · refine ax_s (pc' := 157) (st' := [.int 1, .int y]) rfl rfl rfl rfl ?_
        refine ax_s (pc' := 161) (st' := [.int 1, .int y]) rfl rfl rfl rfl ?_
        refine ax_s (pc' := 162) (st' := [.int (y + 1)]) rfl rfl rfl rfl ?_
        refine ax_s (pc' := 164) (ls' := [some (.ref 285), some (.int (nI t)), some (.int q), some (.int A), some (.int x), some (.int (y + 1)), some (.int (nI j))]) (st' := []) rfl rfl rfl rfl ?_
        refine ax_s (pc' := 167) (ls' := [some (.ref 285), some (.int (nI t)), some (.int q), some (.int A), some (.int x), some (.int (y + 1)), some (.int ((nI j) + 1))]) (st' := []) rfl rfl rfl rfl ?_
        rw [nI_1]
        refine ax_s (pc' := 121) (st' := []) rfl rfl rfl rfl ?_
        exact k11 c1 c18 c19
theorem wv_k_share {d : Nat} {X : Nat × (Nat → Int32)} {S : Nat → Nat → Int32} {L : Nat → Int64} {t : Nat} {q r : Int32} {Q : Option Value → am_H → Prop} (hO : ∀ Q : Option Value → am_H → Prop, Q (some (.int r)) (am_hh X S L) → am_mt (d + 5) 105 [.ref 20, .int (nI t), .int q] (am_hh X S L) Q)  (hg : (¬ (nI t) < 0 ∧ ¬ (S 20 4) ≤ (nI t)) ∧ (¬ (q < 0 ∨ 999 < q))) (k1 : Q (some (.int r)) (am_hh X S L)) : am_mt (d + 6) 104 [.ref 5, .int (nI t), .int q] (am_hh X S L) Q := by
  refine ax_in (ls := [some (.ref 5), some (.int (nI t)), some (.int q)]) rfl ?_
  refine ax_s (pc' := 1) (st' := [.ref 5]) rfl rfl rfl rfl ?_
  refine ax_get rfl (hh_5 _ _ _) rfl rfl rfl ?_
  show am_ex (d + 6) 104 4 [some (.ref 5), some (.int (nI t)), some (.int q)] [.ref 20] (am_hh X S L) _
  refine ax_s (pc' := 5) (st' := [.int (nI t), .ref 20]) rfl rfl rfl rfl ?_
  refine ax_call (vs := [.ref 20, .int (nI t)]) (rr := []) rfl rfl rfl ?_
  refine kw (am_hh_sub isW20 X S L) (am_hh_sub isW20 X S L).symm (fun _ => ct_hasParty (am_isW_k isW20 X S L)) ?_
  show am_ex (d + 6) 104 8 [some (.ref 5), some (.int (nI t)), some (.int q)] [.int (bI (decide (¬ (nI t) < 0 ∧ ¬ (S 20 4) ≤ (nI t))))] (am_hh X S L) _
  refine ax_pF rfl (fun c1 => ?_) (fun c1 => ?_)
  · refine ax_s (pc' := 24) (st' := [.int (-1000001)]) rfl rfl rfl rfl ?_
    refine ax_r rfl rfl rfl ?_
    first | exact absurd (hg.1) c1 | exact absurd c1 (hg.1) | exact absurd (hg.1) (ne_true_of_eq_false c1)
  · refine ax_s (pc' := 12) (st' := [.int q]) rfl rfl rfl rfl ?_
    refine ax_s (pc' := 13) (st' := [.int 0, .int q]) rfl rfl rfl rfl ?_
    refine ax_s (pc' := 16) (st' := [.int 999, .int 0, .int q]) rfl rfl rfl rfl ?_
    refine ax_call (vs := [.int q, .int 0, .int 999]) (rr := []) rfl rfl rfl ?_
    refine ct_isOutside ?_
    show am_ex (d + 6) 104 19 [some (.ref 5), some (.int (nI t)), some (.int q)] [.int (bI (decide (q < 0 ∨ 999 < q)))] (am_hh X S L) _
    refine ax_pF rfl (fun c2 => ?_) (fun c2 => ?_)
    · refine ax_s (pc' := 26) (st' := [.ref 5]) rfl rfl rfl rfl ?_
      refine ax_get rfl (hh_5 _ _ _) rfl rfl rfl ?_
      show am_ex (d + 6) 104 29 [some (.ref 5), some (.int (nI t)), some (.int q)] [.ref 20] (am_hh X S L) _
      refine ax_s (pc' := 30) (st' := [.int (nI t), .ref 20]) rfl rfl rfl rfl ?_
      refine ax_s (pc' := 31) (st' := [.int q, .int (nI t), .ref 20]) rfl rfl rfl rfl ?_
      refine ax_call (vs := [.ref 20, .int (nI t), .int q]) (rr := []) rfl rfl rfl ?_
      refine hO _ ?_
      show am_ex (d + 6) 104 34 [some (.ref 5), some (.int (nI t)), some (.int q)] [.int r] (am_hh X S L) _
      refine ax_r rfl rfl rfl ?_
      exact k1
    · refine ax_s (pc' := 24) (st' := [.int (-1000001)]) rfl rfl rfl rfl ?_
      refine ax_r rfl rfl rfl ?_
      first | exact absurd (hg.2) c2 | exact absurd c2 (hg.2) | exact absurd (hg.2) (ne_true_of_eq_false c2)
theorem wv_m_share {d : Nat} {X : Nat × (Nat → Int32)} {S : Nat → Nat → Int32} {L : Nat → Int64} {t : Nat} {q : Int32} {Q : Option Value → am_H → Prop}  (hg : (¬ (nI t) < 0 ∧ ¬ (S 285 7) - 1 < (nI t)) ∧ (¬ q < 0 ∧ ¬ 999 < q)) (k1 : am_ex (d + 6) 208 27 [some (.ref 285), some (.int (nI t)), some (.int q), some (.int 0), some (.int 0), none, none] [] (am_hh X S L) Q) : am_mt (d + 6) 208 [.ref 285, .int (nI t), .int q] (am_hh X S L) Q := by
  refine ax_in (ls := [some (.ref 285), some (.int (nI t)), some (.int q), none, none, none, none]) rfl ?_
  refine ax_s (pc' := 1) (st' := [.ref 285]) rfl rfl rfl rfl ?_
  refine ax_s (pc' := 2) (st' := [.int (nI t), .ref 285]) rfl rfl rfl rfl ?_
  refine ax_call (vs := [.ref 285, .int (nI t)]) (rr := []) rfl rfl rfl ?_
  refine mt_isParty  ?_
  show am_ex (d + 6) 208 5 [some (.ref 285), some (.int (nI t)), some (.int q), none, none, none, none] [.int (bI (decide (¬ (nI t) < 0 ∧ ¬ (S 285 7) - 1 < (nI t))))] (am_hh X S L) _
  refine ax_pF rfl (fun c1 => ?_) (fun c1 => ?_)
  · refine ax_s (pc' := 21) (st' := [.int (-1000001)]) rfl rfl rfl rfl ?_
    refine ax_r rfl rfl rfl ?_
    first | exact absurd (hg.1) c1 | exact absurd c1 (hg.1) | exact absurd (hg.1) (ne_true_of_eq_false c1)
  · refine ax_s (pc' := 9) (st' := [.int q]) rfl rfl rfl rfl ?_
    refine ax_s (pc' := 10) (st' := [.int 0, .int q]) rfl rfl rfl rfl ?_
    refine ax_s (pc' := 13) (st' := [.int 999, .int 0, .int q]) rfl rfl rfl rfl ?_
    refine ax_call (vs := [.int q, .int 0, .int 999]) (rr := []) rfl rfl rfl ?_
    refine mt_in ?_
    show am_ex (d + 6) 208 16 [some (.ref 285), some (.int (nI t)), some (.int q), none, none, none, none] [.int (bI (decide (¬ q < 0 ∧ ¬ 999 < q)))] (am_hh X S L) _
    refine ax_pT rfl (fun c2 => ?_) (fun c2 => ?_)
    · refine ax_s (pc' := 23) (st' := [.int 0]) rfl rfl rfl rfl ?_
      refine ax_s (pc' := 24) (ls' := [some (.ref 285), some (.int (nI t)), some (.int q), some (.int 0), none, none, none]) (st' := []) rfl rfl rfl rfl ?_
      refine ax_s (pc' := 25) (st' := [.int 0]) rfl rfl rfl rfl ?_
      refine ax_s (pc' := 27) (ls' := [some (.ref 285), some (.int (nI t)), some (.int q), some (.int 0), some (.int 0), none, none]) (st' := []) rfl rfl rfl rfl ?_
      exact k1
    · refine ax_s (pc' := 21) (st' := [.int (-1000001)]) rfl rfl rfl rfl ?_
      refine ax_r rfl rfl rfl ?_
      first | exact absurd (hg.2) c2 | exact absurd c2 (hg.2) | exact absurd (hg.2) (ne_true_of_eq_false c2)
