theorem wl_ofSets {d : Nat} {X : Nat × (Nat → Int32)} {S : Nat → Nat → Int32} {L : Nat → Int64} {n s : Nat} {p q x y z : Int32} {Q : Option Value → am_H → Prop} (hn : S 20 4 = nI n) (hn6 : n ≤ 6)  (k1 : (1 <<< ((S 20 4) &&& 31)) ≤ (nI s) → q = 0 → Q (some (.int x)) (am_hh X S L)) (k2 : (1 <<< ((S 20 4) &&& 31)) ≤ (nI s) → ¬ q = 0 → q = 1 → ¬ x = 0 → Q (some (.int y)) (am_hh X S L)) (k3 : (1 <<< ((S 20 4) &&& 31)) ≤ (nI s) → ¬ q = 0 → q = 1 → x = 0 → Q (some (.int 0)) (am_hh X S L)) (k4 : (1 <<< ((S 20 4) &&& 31)) ≤ (nI s) → ¬ q = 0 → ¬ q = 1 → Q (some (.int z)) (am_hh X S L)) (k5 : ¬ (1 <<< ((S 20 4) &&& 31)) ≤ (nI s) → (sfit (S 25) (S 23) n p s) = false → am_ex (d + 5) 102 11 [some (.ref 20), some (.int p), some (.int q), some (.int x), some (.int y), some (.int z), some (.int (nI (s + 1)))] [] (am_hh X S L) Q) (k6 : ¬ (1 <<< ((S 20 4) &&& 31)) ≤ (nI s) → (sfit (S 25) (S 23) n p s) = true → am_ex (d + 5) 102 11 [some (.ref 20), some (.int p), some (.int q), some (.int (x + 1)), some (.int (y &&& (nI s))), some (.int (z ||| (nI s))), some (.int (nI (s + 1)))] [] (am_hh X S L) Q) : am_ex (d + 5) 102 11 [some (.ref 20), some (.int p), some (.int q), some (.int x), some (.int y), some (.int z), some (.int (nI s))] [] (am_hh X S L) Q := by
  refine ax_s (pc' := 13) (st' := [.int (nI s)]) rfl rfl rfl rfl ?_
  refine ax_s (pc' := 14) (st' := [.int 1, .int (nI s)]) rfl rfl rfl rfl ?_
  refine ax_s (pc' := 15) (st' := [.ref 20, .int 1, .int (nI s)]) rfl rfl rfl rfl ?_
  refine ax_get rfl (hh_20 _ _ _) rfl rfl rfl ?_
  show am_ex (d + 5) 102 18 [some (.ref 20), some (.int p), some (.int q), some (.int x), some (.int y), some (.int z), some (.int (nI s))] [.int (S 20 4), .int 1, .int (nI s)] (am_hh X S L) _
  refine ax_s (pc' := 19) (st' := [.int (1 <<< ((S 20 4) &&& 31)), .int (nI s)]) rfl rfl rfl rfl ?_
  refine ax_cmp_ge rfl (fun c1 => ?_) (fun c1 => ?_)
  · refine ax_s (pc' := 56) (st' := [.int q]) rfl rfl rfl rfl ?_
    by_cases c2 : q = 0
    · refine ax_s (pc' := 84) (ls' := [some (.ref 20), some (.int p), some (.int q), some (.int x), some (.int y), some (.int z), some (.int (nI s))]) (st' := []) (h1 := (am_hh X S L)) rfl (by rw [c2]; rfl) rfl rfl ?_
      refine ax_s (pc' := 85) (st' := [.int x]) rfl rfl rfl rfl ?_
      refine ax_r rfl rfl rfl ?_
      exact k1 c1 c2
    by_cases c3 : q = 1
    · refine ax_s (pc' := 86) (ls' := [some (.ref 20), some (.int p), some (.int q), some (.int x), some (.int y), some (.int z), some (.int (nI s))]) (st' := []) (h1 := (am_hh X S L)) rfl (by rw [c3]; rfl) rfl rfl ?_
      refine ax_s (pc' := 87) (st' := [.int x]) rfl rfl rfl rfl ?_
      refine ax_if_ne rfl (fun c4 => ?_) (fun c4 => ?_)
      · refine ax_s (pc' := 96) (st' := [.int y]) rfl rfl rfl rfl ?_
        refine ax_r rfl rfl rfl ?_
        exact k2 c1 c2 c3 c4
      · refine ax_s (pc' := 91) (st' := [.int 0]) rfl rfl rfl rfl ?_
        refine ax_s (pc' := 96) (st' := [.int 0]) rfl rfl rfl rfl ?_
        refine ax_r rfl rfl rfl ?_
        exact k3 c1 c2 c3 c4
    refine ax_s (pc' := 97) (ls' := [some (.ref 20), some (.int p), some (.int q), some (.int x), some (.int y), some (.int z), some (.int (nI s))]) (st' := []) (h1 := (am_hh X S L)) rfl (am_lsw (by decide) (by simp [Op.lookupswitch.offset, (show ¬ (0 : Int) = Int32.toInt q from fun q => lv_neT c2 (by decide) q.symm), (show ¬ (1 : Int) = Int32.toInt q from fun q => lv_neT c3 (by decide) q.symm)]) (by decide)) rfl rfl ?_
    refine ax_s (pc' := 99) (st' := [.int z]) rfl rfl rfl rfl ?_
    refine ax_r rfl rfl rfl ?_
    exact k4 c1 c2 c3
  · refine ax_s (pc' := 23) (st' := [.ref 20]) rfl rfl rfl rfl ?_
    refine ax_s (pc' := 25) (st' := [.int (nI s), .ref 20]) rfl rfl rfl rfl ?_
    refine ax_s (pc' := 26) (st' := [.int p, .int (nI s), .ref 20]) rfl rfl rfl rfl ?_
    refine ax_call (vs := [.ref 20, .int (nI s), .int p]) (rr := []) rfl rfl rfl ?_
    refine kt_weighs hn hn6 ?_
    show am_ex (d + 5) 102 29 [some (.ref 20), some (.int p), some (.int q), some (.int x), some (.int y), some (.int z), some (.int (nI s))] [.int (bI (sfit (S 25) (S 23) n p s))] (am_hh X S L) _
    refine ax_bF rfl (fun c5 => ?_) (fun c5 => ?_)
    · refine ax_s (pc' := 52) (ls' := [some (.ref 20), some (.int p), some (.int q), some (.int x), some (.int y), some (.int z), some (.int ((nI s) + 1))]) (st' := []) rfl rfl rfl rfl ?_
      rw [nI_1]
      refine ax_s (pc' := 11) (st' := []) rfl rfl rfl rfl ?_
      exact k5 c1 c5
    · refine ax_s (pc' := 35) (ls' := [some (.ref 20), some (.int p), some (.int q), some (.int (x + 1)), some (.int y), some (.int z), some (.int (nI s))]) (st' := []) rfl rfl rfl rfl ?_
      refine ax_s (pc' := 37) (st' := [.int y]) rfl rfl rfl rfl ?_
      refine ax_s (pc' := 39) (st' := [.int (nI s), .int y]) rfl rfl rfl rfl ?_
      refine ax_s (pc' := 40) (st' := [.int (y &&& (nI s))]) rfl rfl rfl rfl ?_
      refine ax_s (pc' := 42) (ls' := [some (.ref 20), some (.int p), some (.int q), some (.int (x + 1)), some (.int (y &&& (nI s))), some (.int z), some (.int (nI s))]) (st' := []) rfl rfl rfl rfl ?_
      refine ax_s (pc' := 44) (st' := [.int z]) rfl rfl rfl rfl ?_
      refine ax_s (pc' := 46) (st' := [.int (nI s), .int z]) rfl rfl rfl rfl ?_
      refine ax_s (pc' := 47) (st' := [.int (z ||| (nI s))]) rfl rfl rfl rfl ?_
      refine ax_s (pc' := 49) (ls' := [some (.ref 20), some (.int p), some (.int q), some (.int (x + 1)), some (.int (y &&& (nI s))), some (.int (z ||| (nI s))), some (.int (nI s))]) (st' := []) rfl rfl rfl rfl ?_
      refine ax_s (pc' := 52) (ls' := [some (.ref 20), some (.int p), some (.int q), some (.int (x + 1)), some (.int (y &&& (nI s))), some (.int (z ||| (nI s))), some (.int ((nI s) + 1))]) (st' := []) rfl rfl rfl rfl ?_
      rw [nI_1]
      refine ax_s (pc' := 11) (st' := []) rfl rfl rfl rfl ?_
      exact k6 c1 c5
theorem wv_k_sets {d : Nat} {X : Nat × (Nat → Int32)} {S : Nat → Nat → Int32} {L : Nat → Int64} {p q r : Int32} {Q : Option Value → am_H → Prop} (hO : ∀ Q : Option Value → am_H → Prop, Q (some (.int r)) (am_hh X S L) → am_mt (d + 5) 102 [.ref 20, .int p, .int q] (am_hh X S L) Q)  (hg : ¬ (S 20 4) ≤ 0 ∧ (¬ (p < 0 ∨ 54 < p)) ∧ (¬ (q < 0 ∨ 2 < q))) (k1 : Q (some (.int r)) (am_hh X S L)) : am_mt (d + 6) 101 [.ref 5, .int p, .int q] (am_hh X S L) Q := by
  refine ax_in (ls := [some (.ref 5), some (.int p), some (.int q)]) rfl ?_
  refine ax_s (pc' := 1) (st' := [.ref 5]) rfl rfl rfl rfl ?_
  refine ax_get rfl (hh_5 _ _ _) rfl rfl rfl ?_
  show am_ex (d + 6) 101 4 [some (.ref 5), some (.int p), some (.int q)] [.ref 20] (am_hh X S L) _
  refine ax_call (vs := [.ref 20]) (rr := []) rfl rfl rfl ?_
  refine kw (am_hh_sub isW20 X S L) (am_hh_sub isW20 X S L).symm (fun _ => ct_stands (am_isW_k isW20 X S L)) ?_
  show am_ex (d + 6) 101 7 [some (.ref 5), some (.int p), some (.int q)] [.int (bI (decide (¬ (S 20 4) ≤ 0)))] (am_hh X S L) _
  refine ax_qT rfl (fun c1 => ?_) (fun c1 => ?_)
  · refine ax_s (pc' := 14) (st' := [.int p]) rfl rfl rfl rfl ?_
    refine ax_s (pc' := 15) (st' := [.int 0, .int p]) rfl rfl rfl rfl ?_
    refine ax_s (pc' := 17) (st' := [.int 54, .int 0, .int p]) rfl rfl rfl rfl ?_
    refine ax_call (vs := [.int p, .int 0, .int 54]) (rr := []) rfl rfl rfl ?_
    refine ct_isOutside ?_
    show am_ex (d + 6) 101 20 [some (.ref 5), some (.int p), some (.int q)] [.int (bI (decide (p < 0 ∨ 54 < p)))] (am_hh X S L) _
    refine ax_pT rfl (fun c2 => ?_) (fun c2 => ?_)
    · refine ax_s (pc' := 34) (st' := [.int (-1000001)]) rfl rfl rfl rfl ?_
      refine ax_r rfl rfl rfl ?_
      first | exact absurd (hg.2.1) c2 | exact absurd c2 (hg.2.1) | exact absurd (hg.2.1) (ne_true_of_eq_false c2)
    · refine ax_s (pc' := 24) (st' := [.int q]) rfl rfl rfl rfl ?_
      refine ax_s (pc' := 25) (st' := [.int 0, .int q]) rfl rfl rfl rfl ?_
      refine ax_s (pc' := 26) (st' := [.int 2, .int 0, .int q]) rfl rfl rfl rfl ?_
      refine ax_call (vs := [.int q, .int 0, .int 2]) (rr := []) rfl rfl rfl ?_
      refine ct_isOutside ?_
      show am_ex (d + 6) 101 29 [some (.ref 5), some (.int p), some (.int q)] [.int (bI (decide (q < 0 ∨ 2 < q)))] (am_hh X S L) _
      refine ax_pF rfl (fun c3 => ?_) (fun c3 => ?_)
      · refine ax_s (pc' := 36) (st' := [.ref 5]) rfl rfl rfl rfl ?_
        refine ax_get rfl (hh_5 _ _ _) rfl rfl rfl ?_
        show am_ex (d + 6) 101 39 [some (.ref 5), some (.int p), some (.int q)] [.ref 20] (am_hh X S L) _
        refine ax_s (pc' := 40) (st' := [.int p, .ref 20]) rfl rfl rfl rfl ?_
        refine ax_s (pc' := 41) (st' := [.int q, .int p, .ref 20]) rfl rfl rfl rfl ?_
        refine ax_call (vs := [.ref 20, .int p, .int q]) (rr := []) rfl rfl rfl ?_
        refine hO _ ?_
        show am_ex (d + 6) 101 44 [some (.ref 5), some (.int p), some (.int q)] [.int r] (am_hh X S L) _
        refine ax_r rfl rfl rfl ?_
        exact k1
      · refine ax_s (pc' := 34) (st' := [.int (-1000001)]) rfl rfl rfl rfl ?_
        refine ax_r rfl rfl rfl ?_
        first | exact absurd (hg.2.2) c3 | exact absurd c3 (hg.2.2) | exact absurd (hg.2.2) (ne_true_of_eq_false c3)
  · refine ax_s (pc' := 12) (st' := [.int (-1000002)]) rfl rfl rfl rfl ?_
    refine ax_r rfl rfl rfl ?_
    first | exact absurd (hg.1) c1 | exact absurd c1 (hg.1) | exact absurd (hg.1) (ne_true_of_eq_false c1)
theorem wp_ofSets {d : Nat} {X : Nat × (Nat → Int32)} {S : Nat → Nat → Int32} {L : Nat → Int64} {p q : Int32} {Q : Option Value → am_H → Prop}  (k1 : am_ex (d + 5) 102 11 [some (.ref 20), some (.int p), some (.int q), some (.int 0), some (.int (-1)), some (.int 0), some (.int 0)] [] (am_hh X S L) Q) : am_mt (d + 5) 102 [.ref 20, .int p, .int q] (am_hh X S L) Q := by
  refine ax_in (ls := [some (.ref 20), some (.int p), some (.int q), none, none, none, none]) rfl ?_
  refine ax_s (pc' := 1) (st' := [.int 0]) rfl rfl rfl rfl ?_
  refine ax_s (pc' := 2) (ls' := [some (.ref 20), some (.int p), some (.int q), some (.int 0), none, none, none]) (st' := []) rfl rfl rfl rfl ?_
  refine ax_s (pc' := 3) (st' := [.int (-1)]) rfl rfl rfl rfl ?_
  refine ax_s (pc' := 5) (ls' := [some (.ref 20), some (.int p), some (.int q), some (.int 0), some (.int (-1)), none, none]) (st' := []) rfl rfl rfl rfl ?_
  refine ax_s (pc' := 6) (st' := [.int 0]) rfl rfl rfl rfl ?_
  refine ax_s (pc' := 8) (ls' := [some (.ref 20), some (.int p), some (.int q), some (.int 0), some (.int (-1)), some (.int 0), none]) (st' := []) rfl rfl rfl rfl ?_
  refine ax_s (pc' := 9) (st' := [.int 0]) rfl rfl rfl rfl ?_
  refine ax_s (pc' := 11) (ls' := [some (.ref 20), some (.int p), some (.int q), some (.int 0), some (.int (-1)), some (.int 0), some (.int 0)]) (st' := []) rfl rfl rfl rfl ?_
  exact k1
theorem wl_msets {d : Nat} {X : Nat × (Nat → Int32)} {S : Nat → Nat → Int32} {L : Nat → Int64} {n s : Nat} {p q u x y z : Int32} {Q : Option Value → am_H → Prop} (hn : S 285 7 = nI n) (hn6 : n ≤ 6)  (x1 : ¬ (1 <<< ((S 285 7) &&& 31)) ≤ (nI s) → ((nI s) &&& (u ^^^ (-1))) = 0 → s < 64) (k1 : (1 <<< ((S 285 7) &&& 31)) ≤ (nI s) → ¬ q = 0 → ¬ x = 0 → ¬ q = 1 → Q (some (.int z)) (am_hh X S L)) (k2 : (1 <<< ((S 285 7) &&& 31)) ≤ (nI s) → ¬ q = 0 → ¬ x = 0 → q = 1 → Q (some (.int y)) (am_hh X S L)) (k3 : (1 <<< ((S 285 7) &&& 31)) ≤ (nI s) → ¬ q = 0 → x = 0 → Q (some (.int 0)) (am_hh X S L)) (k4 : (1 <<< ((S 285 7) &&& 31)) ≤ (nI s) → q = 0 → Q (some (.int x)) (am_hh X S L)) (k5 : ¬ (1 <<< ((S 285 7) &&& 31)) ≤ (nI s) → ¬ ((nI s) &&& (u ^^^ (-1))) = 0 → am_ex (d + 6) 206 64 [some (.ref 285), some (.int p), some (.int q), some (.int u), some (.int x), some (.int y), some (.int z), some (.int (nI (s + 1)))] [] (am_hh X S L) Q) (k6 : ¬ (1 <<< ((S 285 7) &&& 31)) ≤ (nI s) → ((nI s) &&& (u ^^^ (-1))) = 0 → ¬ (ssum (S 291) s n 0 0) = p → am_ex (d + 6) 206 64 [some (.ref 285), some (.int p), some (.int q), some (.int u), some (.int x), some (.int y), some (.int z), some (.int (nI (s + 1)))] [] (am_hh X S L) Q) (k7 : ¬ (1 <<< ((S 285 7) &&& 31)) ≤ (nI s) → ((nI s) &&& (u ^^^ (-1))) = 0 → (ssum (S 291) s n 0 0) = p → am_ex (d + 6) 206 64 [some (.ref 285), some (.int p), some (.int q), some (.int u), some (.int (x + 1)), some (.int (y &&& (nI s))), some (.int (z ||| (nI s))), some (.int (nI (s + 1)))] [] (am_hh X S L) Q) : am_ex (d + 6) 206 64 [some (.ref 285), some (.int p), some (.int q), some (.int u), some (.int x), some (.int y), some (.int z), some (.int (nI s))] [] (am_hh X S L) Q := by
  refine ax_s (pc' := 66) (st' := [.int (nI s)]) rfl rfl rfl rfl ?_
  refine ax_s (pc' := 67) (st' := [.int 1, .int (nI s)]) rfl rfl rfl rfl ?_
  refine ax_s (pc' := 68) (st' := [.ref 285, .int 1, .int (nI s)]) rfl rfl rfl rfl ?_
  refine ax_get rfl (hh_285 _ _ _) rfl rfl rfl ?_
  show am_ex (d + 6) 206 71 [some (.ref 285), some (.int p), some (.int q), some (.int u), some (.int x), some (.int y), some (.int z), some (.int (nI s))] [.int (S 285 7), .int 1, .int (nI s)] (am_hh X S L) _
  refine ax_s (pc' := 72) (st' := [.int (1 <<< ((S 285 7) &&& 31)), .int (nI s)]) rfl rfl rfl rfl ?_
  refine ax_cmp_ge rfl (fun c1 => ?_) (fun c1 => ?_)
  · refine ax_s (pc' := 118) (st' := [.int q]) rfl rfl rfl rfl ?_
    refine ax_if_ne rfl (fun c2 => ?_) (fun c2 => ?_)
    · refine ax_s (pc' := 128) (st' := [.int x]) rfl rfl rfl rfl ?_
      refine ax_if_ne rfl (fun c3 => ?_) (fun c3 => ?_)
      · refine ax_s (pc' := 136) (st' := [.int q]) rfl rfl rfl rfl ?_
        refine ax_s (pc' := 137) (st' := [.int 1, .int q]) rfl rfl rfl rfl ?_
        refine ax_cmp_ne rfl (fun c4 => ?_) (fun c4 => ?_)
        · refine ax_s (pc' := 147) (st' := [.int z]) rfl rfl rfl rfl ?_
          refine ax_r rfl rfl rfl ?_
          exact k1 c1 c2 c3 c4
        · refine ax_s (pc' := 142) (st' := [.int y]) rfl rfl rfl rfl ?_
          refine ax_s (pc' := 147) (st' := [.int y]) rfl rfl rfl rfl ?_
          refine ax_r rfl rfl rfl ?_
          exact k2 c1 c2 c3 c4
      · refine ax_s (pc' := 132) (st' := [.int 0]) rfl rfl rfl rfl ?_
        refine ax_s (pc' := 147) (st' := [.int 0]) rfl rfl rfl rfl ?_
        refine ax_r rfl rfl rfl ?_
        exact k3 c1 c2 c3
    · refine ax_s (pc' := 123) (st' := [.int x]) rfl rfl rfl rfl ?_
      refine ax_s (pc' := 147) (st' := [.int x]) rfl rfl rfl rfl ?_
      refine ax_r rfl rfl rfl ?_
      exact k4 c1 c2
  · refine ax_s (pc' := 77) (st' := [.int (nI s)]) rfl rfl rfl rfl ?_
    refine ax_s (pc' := 78) (st' := [.int u, .int (nI s)]) rfl rfl rfl rfl ?_
    refine ax_s (pc' := 79) (st' := [.int (-1), .int u, .int (nI s)]) rfl rfl rfl rfl ?_
    refine ax_s (pc' := 80) (st' := [.int (u ^^^ (-1)), .int (nI s)]) rfl rfl rfl rfl ?_
    refine ax_s (pc' := 81) (st' := [.int ((nI s) &&& (u ^^^ (-1)))]) rfl rfl rfl rfl ?_
    refine ax_if_ne rfl (fun c5 => ?_) (fun c5 => ?_)
    · refine ax_s (pc' := 114) (ls' := [some (.ref 285), some (.int p), some (.int q), some (.int u), some (.int x), some (.int y), some (.int z), some (.int ((nI s) + 1))]) (st' := []) rfl rfl rfl rfl ?_
      rw [nI_1]
      refine ax_s (pc' := 64) (st' := []) rfl rfl rfl rfl ?_
      exact k5 c1 c5
    · refine ax_s (pc' := 85) (st' := [.ref 285]) rfl rfl rfl rfl ?_
      refine ax_s (pc' := 87) (st' := [.int (nI s), .ref 285]) rfl rfl rfl rfl ?_
      refine ax_call (vs := [.ref 285, .int (nI s)]) (rr := []) rfl rfl rfl ?_
      refine mt_weightOf hn hn6 (x1 c1 c5) ?_
      show am_ex (d + 6) 206 90 [some (.ref 285), some (.int p), some (.int q), some (.int u), some (.int x), some (.int y), some (.int z), some (.int (nI s))] [.int (ssum (S 291) s n 0 0)] (am_hh X S L) _
      refine ax_s (pc' := 91) (st' := [.int p, .int (ssum (S 291) s n 0 0)]) rfl rfl rfl rfl ?_
      refine ax_cmp_ne rfl (fun c6 => ?_) (fun c6 => ?_)
      · refine ax_s (pc' := 114) (ls' := [some (.ref 285), some (.int p), some (.int q), some (.int u), some (.int x), some (.int y), some (.int z), some (.int ((nI s) + 1))]) (st' := []) rfl rfl rfl rfl ?_
        rw [nI_1]
        refine ax_s (pc' := 64) (st' := []) rfl rfl rfl rfl ?_
        exact k6 c1 c5 c6
      · refine ax_s (pc' := 97) (ls' := [some (.ref 285), some (.int p), some (.int q), some (.int u), some (.int (x + 1)), some (.int y), some (.int z), some (.int (nI s))]) (st' := []) rfl rfl rfl rfl ?_
        refine ax_s (pc' := 99) (st' := [.int y]) rfl rfl rfl rfl ?_
        refine ax_s (pc' := 101) (st' := [.int (nI s), .int y]) rfl rfl rfl rfl ?_
        refine ax_s (pc' := 102) (st' := [.int (y &&& (nI s))]) rfl rfl rfl rfl ?_
        refine ax_s (pc' := 104) (ls' := [some (.ref 285), some (.int p), some (.int q), some (.int u), some (.int (x + 1)), some (.int (y &&& (nI s))), some (.int z), some (.int (nI s))]) (st' := []) rfl rfl rfl rfl ?_
        refine ax_s (pc' := 106) (st' := [.int z]) rfl rfl rfl rfl ?_
        refine ax_s (pc' := 108) (st' := [.int (nI s), .int z]) rfl rfl rfl rfl ?_
        refine ax_s (pc' := 109) (st' := [.int (z ||| (nI s))]) rfl rfl rfl rfl ?_
        refine ax_s (pc' := 111) (ls' := [some (.ref 285), some (.int p), some (.int q), some (.int u), some (.int (x + 1)), some (.int (y &&& (nI s))), some (.int (z ||| (nI s))), some (.int (nI s))]) (st' := []) rfl rfl rfl rfl ?_
        refine ax_s (pc' := 114) (ls' := [some (.ref 285), some (.int p), some (.int q), some (.int u), some (.int (x + 1)), some (.int (y &&& (nI s))), some (.int (z ||| (nI s))), some (.int ((nI s) + 1))]) (st' := []) rfl rfl rfl rfl ?_
        rw [nI_1]
        refine ax_s (pc' := 64) (st' := []) rfl rfl rfl rfl ?_
        exact k7 c1 c5 c6
theorem wv_m_sets {d : Nat} {X : Nat × (Nat → Int32)} {S : Nat → Nat → Int32} {L : Nat → Int64} {g n : Nat} {p q : Int32} {Q : Option Value → am_H → Prop} (hF : mF S g n)  (hg : ¬ ((S 285 8) = 0) ∧ (¬ p < 0 ∧ ¬ 54 < p) ∧ (¬ q < 0 ∧ ¬ 2 < q)) (k1 : am_ex (d + 6) 206 64 [some (.ref 285), some (.int p), some (.int q), some (.int ((m_th S 293 0 n 0 0) ||| (m_th S 293 1 n 0 0))), some (.int 0), some (.int ((m_th S 293 0 n 0 0) ||| (m_th S 293 1 n 0 0))), some (.int 0), some (.int 0)] [] (am_hh X S L) Q) : am_mt (d + 6) 206 [.ref 285, .int p, .int q] (am_hh X S L) Q := by
  refine ax_in (ls := [some (.ref 285), some (.int p), some (.int q), none, none, none, none, none]) rfl ?_
  refine ax_s (pc' := 1) (st' := [.ref 285]) rfl rfl rfl rfl ?_
  refine ax_call (vs := [.ref 285]) (rr := []) rfl rfl rfl ?_
  refine mt_isNone  ?_
  show am_ex (d + 6) 206 4 [some (.ref 285), some (.int p), some (.int q), none, none, none, none, none] [.int (bI (decide ((S 285 8) = 0)))] (am_hh X S L) _
  refine ax_pF rfl (fun c1 => ?_) (fun c1 => ?_)
  · refine ax_s (pc' := 11) (st' := [.int p]) rfl rfl rfl rfl ?_
    refine ax_s (pc' := 12) (st' := [.int 0, .int p]) rfl rfl rfl rfl ?_
    refine ax_s (pc' := 14) (st' := [.int 54, .int 0, .int p]) rfl rfl rfl rfl ?_
    refine ax_call (vs := [.int p, .int 0, .int 54]) (rr := []) rfl rfl rfl ?_
    refine mt_in ?_
    show am_ex (d + 6) 206 17 [some (.ref 285), some (.int p), some (.int q), none, none, none, none, none] [.int (bI (decide (¬ p < 0 ∧ ¬ 54 < p)))] (am_hh X S L) _
    refine ax_pF rfl (fun c2 => ?_) (fun c2 => ?_)
    · refine ax_s (pc' := 31) (st' := [.int (-1000001)]) rfl rfl rfl rfl ?_
      refine ax_r rfl rfl rfl ?_
      first | exact absurd (hg.2.1) c2 | exact absurd c2 (hg.2.1) | exact absurd (hg.2.1) (ne_true_of_eq_false c2)
    · refine ax_s (pc' := 21) (st' := [.int q]) rfl rfl rfl rfl ?_
      refine ax_s (pc' := 22) (st' := [.int 0, .int q]) rfl rfl rfl rfl ?_
      refine ax_s (pc' := 23) (st' := [.int 2, .int 0, .int q]) rfl rfl rfl rfl ?_
      refine ax_call (vs := [.int q, .int 0, .int 2]) (rr := []) rfl rfl rfl ?_
      refine mt_in ?_
      show am_ex (d + 6) 206 26 [some (.ref 285), some (.int p), some (.int q), none, none, none, none, none] [.int (bI (decide (¬ q < 0 ∧ ¬ 2 < q)))] (am_hh X S L) _
      refine ax_pT rfl (fun c3 => ?_) (fun c3 => ?_)
      · refine ax_s (pc' := 33) (st' := [.ref 285]) rfl rfl rfl rfl ?_
        refine ax_s (pc' := 34) (st' := [.ref 285, .ref 285]) rfl rfl rfl rfl ?_
        refine ax_get rfl (hh_285 _ _ _) rfl rfl rfl ?_
        show am_ex (d + 6) 206 37 [some (.ref 285), some (.int p), some (.int q), none, none, none, none, none] [.ref 293, .ref 285] (am_hh X S L) _
        refine ax_s (pc' := 38) (st' := [.int 0, .ref 293, .ref 285]) rfl rfl rfl rfl ?_
        refine ax_call (vs := [.ref 285, .ref 293, .int 0]) (rr := []) rfl rfl rfl ?_
        refine mt_those hF.1.1 hF.1.2 (Or.inl rfl) ?_
        show am_ex (d + 6) 206 41 [some (.ref 285), some (.int p), some (.int q), none, none, none, none, none] [.int (m_th S 293 0 n 0 0)] (am_hh X S L) _
        refine ax_s (pc' := 42) (st' := [.ref 285, .int (m_th S 293 0 n 0 0)]) rfl rfl rfl rfl ?_
        refine ax_s (pc' := 43) (st' := [.ref 285, .ref 285, .int (m_th S 293 0 n 0 0)]) rfl rfl rfl rfl ?_
        refine ax_get rfl (hh_285 _ _ _) rfl rfl rfl ?_
        show am_ex (d + 6) 206 46 [some (.ref 285), some (.int p), some (.int q), none, none, none, none, none] [.ref 293, .ref 285, .int (m_th S 293 0 n 0 0)] (am_hh X S L) _
        refine ax_s (pc' := 47) (st' := [.int 1, .ref 293, .ref 285, .int (m_th S 293 0 n 0 0)]) rfl rfl rfl rfl ?_
        refine ax_call (vs := [.ref 285, .ref 293, .int 1]) (rr := [.int (m_th S 293 0 n 0 0)]) rfl rfl rfl ?_
        refine mt_those hF.1.1 hF.1.2 (Or.inl rfl) ?_
        show am_ex (d + 6) 206 50 [some (.ref 285), some (.int p), some (.int q), none, none, none, none, none] [.int (m_th S 293 1 n 0 0), .int (m_th S 293 0 n 0 0)] (am_hh X S L) _
        refine ax_s (pc' := 51) (st' := [.int ((m_th S 293 0 n 0 0) ||| (m_th S 293 1 n 0 0))]) rfl rfl rfl rfl ?_
        refine ax_s (pc' := 52) (ls' := [some (.ref 285), some (.int p), some (.int q), some (.int ((m_th S 293 0 n 0 0) ||| (m_th S 293 1 n 0 0))), none, none, none, none]) (st' := []) rfl rfl rfl rfl ?_
        refine ax_s (pc' := 53) (st' := [.int 0]) rfl rfl rfl rfl ?_
        refine ax_s (pc' := 55) (ls' := [some (.ref 285), some (.int p), some (.int q), some (.int ((m_th S 293 0 n 0 0) ||| (m_th S 293 1 n 0 0))), some (.int 0), none, none, none]) (st' := []) rfl rfl rfl rfl ?_
        refine ax_s (pc' := 56) (st' := [.int ((m_th S 293 0 n 0 0) ||| (m_th S 293 1 n 0 0))]) rfl rfl rfl rfl ?_
        refine ax_s (pc' := 58) (ls' := [some (.ref 285), some (.int p), some (.int q), some (.int ((m_th S 293 0 n 0 0) ||| (m_th S 293 1 n 0 0))), some (.int 0), some (.int ((m_th S 293 0 n 0 0) ||| (m_th S 293 1 n 0 0))), none, none]) (st' := []) rfl rfl rfl rfl ?_
        refine ax_s (pc' := 59) (st' := [.int 0]) rfl rfl rfl rfl ?_
        refine ax_s (pc' := 61) (ls' := [some (.ref 285), some (.int p), some (.int q), some (.int ((m_th S 293 0 n 0 0) ||| (m_th S 293 1 n 0 0))), some (.int 0), some (.int ((m_th S 293 0 n 0 0) ||| (m_th S 293 1 n 0 0))), some (.int 0), none]) (st' := []) rfl rfl rfl rfl ?_
        refine ax_s (pc' := 62) (st' := [.int 0]) rfl rfl rfl rfl ?_
        refine ax_s (pc' := 64) (ls' := [some (.ref 285), some (.int p), some (.int q), some (.int ((m_th S 293 0 n 0 0) ||| (m_th S 293 1 n 0 0))), some (.int 0), some (.int ((m_th S 293 0 n 0 0) ||| (m_th S 293 1 n 0 0))), some (.int 0), some (.int 0)]) (st' := []) rfl rfl rfl rfl ?_
        exact k1
      · refine ax_s (pc' := 31) (st' := [.int (-1000001)]) rfl rfl rfl rfl ?_
        refine ax_r rfl rfl rfl ?_
        first | exact absurd (hg.2.2) c3 | exact absurd c3 (hg.2.2) | exact absurd (hg.2.2) (ne_true_of_eq_false c3)
  · refine ax_s (pc' := 9) (st' := [.int (-1000002)]) rfl rfl rfl rfl ?_
    refine ax_r rfl rfl rfl ?_
    first | exact absurd (hg.1) c1 | exact absurd c1 (hg.1) | exact absurd (hg.1) (ne_true_of_eq_false c1)
