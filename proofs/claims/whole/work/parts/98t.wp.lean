theorem wl_guess0 {d : Nat} {X : Nat × (Nat → Int32)} {S : Nat → Nat → Int32} {L : Nat → Int64} {g n r f N j v : Nat} {W1 : Nat → Nat → Int32} {t : Nat → Int32} {x y z : Int32} {Q : Option Value → am_H → Prop} (hr : r < 8) (hfN : f + N ≤ 40) (ht : ∀ i, i < N → S (8 + 1 * r) (f + i) = t i) (hf : wF (am_sub S 20) g n) (hc1 : w_cl W1) (hc0 : w_cl (am_sub S 20)) (hj : j < 6)  (x1 : ¬ 5 < (nI v) → j < 6) (k1 : 5 < (nI v) → Q (some (.int x)) (am_hh X (am_ovl S 29 W1) L)) (k2 : ¬ 5 < (nI v) → ∀ W3 : Nat → Nat → Int32, w_cl W3 → (w_ls g n t N 0 (am_u (am_sub S 20) 2 j (nI v))) = false → am_ex (d + 8) 115 13 [some (.ref 280), some (.int (nI j)), some (.int 0), some (.ref (8 + 1 * r)), some (.int (nI f)), some (.int (nI N)), some (.int x), some (.int y), some (.int z), some (.int (nI (v + 1)))] [] (am_hh X (am_ovl S 29 W3) L) Q) (k3 : ¬ 5 < (nI v) → ∀ W3 : Nat → Nat → Int32, w_cl W3 → (w_ls g n t N 0 (am_u (am_sub S 20) 2 j (nI v))) = true → ¬ z = (-1000000) → am_ex (d + 8) 115 13 [some (.ref 280), some (.int (nI j)), some (.int 0), some (.ref (8 + 1 * r)), some (.int (nI f)), some (.int (nI N)), some (.int (x ||| (1 <<< ((nI v) &&& 31)))), some (.int (y + 1)), some (.int z), some (.int (nI (v + 1)))] [] (am_hh X (am_ovl S 29 W3) L) Q) (k4 : ¬ 5 < (nI v) → ∀ W3 : Nat → Nat → Int32, w_cl W3 → (w_ls g n t N 0 (am_u (am_sub S 20) 2 j (nI v))) = true → z = (-1000000) → am_ex (d + 8) 115 13 [some (.ref 280), some (.int (nI j)), some (.int 0), some (.ref (8 + 1 * r)), some (.int (nI f)), some (.int (nI N)), some (.int (x ||| (1 <<< ((nI v) &&& 31)))), some (.int (y + 1)), some (.int (nI v)), some (.int (nI (v + 1)))] [] (am_hh X (am_ovl S 29 W3) L) Q) : am_ex (d + 8) 115 13 [some (.ref 280), some (.int (nI j)), some (.int 0), some (.ref (8 + 1 * r)), some (.int (nI f)), some (.int (nI N)), some (.int x), some (.int y), some (.int z), some (.int (nI v))] [] (am_hh X (am_ovl S 29 W1) L) Q := by
  refine ax_s (pc' := 15) (st' := [.int (nI v)]) rfl rfl rfl rfl ?_
  refine ax_s (pc' := 16) (st' := [.int 0, .int (nI v)]) rfl rfl rfl rfl ?_
  refine ax_call (vs := [.int 0]) (rr := [.int (nI v)]) rfl rfl rfl ?_
  refine ax_in (ls := [some (.int 0)]) rfl ?_
  refine ax_s (pc' := 1) (st' := [.int 0]) rfl rfl rfl rfl ?_
  refine ax_s (pc' := 28) (ls' := [some (.int 0)]) (st' := []) (h1 := (am_hh X (am_ovl S 29 W1) L)) rfl rfl rfl rfl ?_
  refine ax_s (pc' := 29) (st' := [.int 5]) rfl rfl rfl rfl ?_
  refine ax_r rfl rfl rfl ?_
  show am_ex (d + 8) 115 19 [some (.ref 280), some (.int (nI j)), some (.int 0), some (.ref (8 + 1 * r)), some (.int (nI f)), some (.int (nI N)), some (.int x), some (.int y), some (.int z), some (.int (nI v))] [.int 5, .int (nI v)] (am_hh X (am_ovl S 29 W1) L) _
  refine ax_cmp_gt rfl (fun c1 => ?_) (fun c1 => ?_)
  · refine ax_s (pc' := 88) (st' := [.int 0]) rfl rfl rfl rfl ?_
    refine ax_s (pc' := 89) (st' := [.int 3, .int 0]) rfl rfl rfl rfl ?_
    refine ax_cmp_ge rfl (fun c2 => False.elim (by revert c2; decide)) (fun c2 => ?_)
    refine ax_s (pc' := 94) (st' := [.int x]) rfl rfl rfl rfl ?_
    refine ax_r rfl rfl rfl ?_
    exact k1 c1
  · refine ax_s (pc' := 23) (st' := [.ref 280]) rfl rfl rfl rfl ?_
    refine ax_get rfl (hh_280 _ _ _) rfl rfl rfl ?_
    show am_ex (d + 8) 115 26 [some (.ref 280), some (.int (nI j)), some (.int 0), some (.ref (8 + 1 * r)), some (.int (nI f)), some (.int (nI N)), some (.int x), some (.int y), some (.int z), some (.int (nI v))] [.ref 29] (am_hh X (am_ovl S 29 W1) L) _
    refine ax_s (pc' := 27) (st' := [.ref 280, .ref 29]) rfl rfl rfl rfl ?_
    refine ax_get rfl (hh_280 _ _ _) rfl rfl rfl ?_
    show am_ex (d + 8) 115 30 [some (.ref 280), some (.int (nI j)), some (.int 0), some (.ref (8 + 1 * r)), some (.int (nI f)), some (.int (nI N)), some (.int x), some (.int y), some (.int z), some (.int (nI v))] [.ref 20, .ref 29] (am_hh X (am_ovl S 29 W1) L) _
    refine ax_call (vs := [.ref 29, .ref 20]) (rr := []) rfl rfl rfl ?_
    refine kt_takeFrom29' hc1 hc0 ?_
    show am_ex (d + 8) 115 33 [some (.ref 280), some (.int (nI j)), some (.int 0), some (.ref (8 + 1 * r)), some (.int (nI f)), some (.int (nI N)), some (.int x), some (.int y), some (.int z), some (.int (nI v))] [] (am_hh X (am_ovl S 29 (am_sub S 20)) L) _
    refine ax_s (pc' := 34) (st' := [.ref 280]) rfl rfl rfl rfl ?_
    refine ax_s (pc' := 35) (st' := [.int (nI j), .ref 280]) rfl rfl rfl rfl ?_
    refine ax_s (pc' := 36) (st' := [.int 0, .int (nI j), .ref 280]) rfl rfl rfl rfl ?_
    refine ax_s (pc' := 38) (st' := [.int (nI v), .int 0, .int (nI j), .ref 280]) rfl rfl rfl rfl ?_
    refine ax_call (vs := [.ref 280, .int (nI j), .int 0, .int (nI v)]) (rr := []) rfl rfl rfl ?_
    refine ax_in (ls := [some (.ref 280), some (.int (nI j)), some (.int 0), some (.int (nI v))]) rfl ?_
    refine ax_s (pc' := 1) (st' := [.int 0]) rfl rfl rfl rfl ?_
    refine ax_s (pc' := 28) (ls' := [some (.ref 280), some (.int (nI j)), some (.int 0), some (.int (nI v))]) (st' := []) (h1 := (am_hh X (am_ovl S 29 (am_sub S 20)) L)) rfl rfl rfl rfl ?_
    refine ax_s (pc' := 29) (st' := [.ref 280]) rfl rfl rfl rfl ?_
    refine ax_get rfl (hh_280 _ _ _) rfl rfl rfl ?_
    show am_ex (d + 7) 117 32 [some (.ref 280), some (.int (nI j)), some (.int 0), some (.int (nI v))] [.ref 29] (am_hh X (am_ovl S 29 (am_sub S 20)) L) _
    refine ax_get rfl (hh_29 _ _ _) rfl rfl rfl ?_
    show am_ex (d + 7) 117 35 [some (.ref 280), some (.int (nI j)), some (.int 0), some (.int (nI v))] [.ref 31] (am_hh X (am_ovl S 29 (am_sub S 20)) L) _
    refine ax_s (pc' := 36) (st' := [.int (nI j), .ref 31]) rfl rfl rfl rfl ?_
    refine ax_s (pc' := 37) (st' := [.int (nI v), .int (nI j), .ref 31]) rfl rfl rfl rfl ?_
    refine ax_ast (j := j) rfl (hh_31 _ _ _) rfl rfl (x1 c1) (by decide) (am_hh_setW _ _ _ _ 2 j _ (by decide) rfl) ?_
    refine ax_s (pc' := 75) (st' := []) rfl rfl rfl rfl ?_
    refine ax_r rfl rfl rfl ?_
    show am_ex (d + 8) 115 41 [some (.ref 280), some (.int (nI j)), some (.int 0), some (.ref (8 + 1 * r)), some (.int (nI f)), some (.int (nI N)), some (.int x), some (.int y), some (.int z), some (.int (nI v))] [] (am_hh X (am_ovl S 29 (am_u (am_sub S 20) 2 j (nI v))) L) _
    refine ax_s (pc' := 42) (st' := [.ref 280]) rfl rfl rfl rfl ?_
    refine ax_s (pc' := 43) (st' := [.ref (8 + 1 * r), .ref 280]) rfl rfl rfl rfl ?_
    refine ax_s (pc' := 45) (st' := [.int (nI f), .ref (8 + 1 * r), .ref 280]) rfl rfl rfl rfl ?_
    refine ax_s (pc' := 47) (st' := [.int (nI N), .int (nI f), .ref (8 + 1 * r), .ref 280]) rfl rfl rfl rfl ?_
    refine ax_call (vs := [.ref 280, .ref (8 + 1 * r), .int (nI f), .int (nI N)]) (rr := []) rfl rfl rfl ?_
    refine kt_leansAs hr hfN ht (wF_u (c := 2) (i := j) (v := nI v) hf (by omega)) (w_cl_u hc0 (show j < 6 from hj)) (fun W3 h3 => ?_)
    show am_ex (d + 8) 115 50 [some (.ref 280), some (.int (nI j)), some (.int 0), some (.ref (8 + 1 * r)), some (.int (nI f)), some (.int (nI N)), some (.int x), some (.int y), some (.int z), some (.int (nI v))] [.int (bI (w_ls g n t N 0 (am_u (am_sub S 20) 2 j (nI v))))] (am_hh X (am_ovl S 29 W3) L) _
    refine ax_bF rfl (fun c4 => ?_) (fun c4 => ?_)
    · refine ax_s (pc' := 84) (ls' := [some (.ref 280), some (.int (nI j)), some (.int 0), some (.ref (8 + 1 * r)), some (.int (nI f)), some (.int (nI N)), some (.int x), some (.int y), some (.int z), some (.int ((nI v) + 1))]) (st' := []) rfl rfl rfl rfl ?_
      rw [nI_1]
      refine ax_s (pc' := 13) (st' := []) rfl rfl rfl rfl ?_
      exact k2 c1 W3 h3 c4
    · refine ax_s (pc' := 55) (st' := [.int x]) rfl rfl rfl rfl ?_
      refine ax_s (pc' := 56) (st' := [.int 1, .int x]) rfl rfl rfl rfl ?_
      refine ax_s (pc' := 58) (st' := [.int (nI v), .int 1, .int x]) rfl rfl rfl rfl ?_
      refine ax_s (pc' := 59) (st' := [.int (1 <<< ((nI v) &&& 31)), .int x]) rfl rfl rfl rfl ?_
      refine ax_s (pc' := 60) (st' := [.int (x ||| (1 <<< ((nI v) &&& 31)))]) rfl rfl rfl rfl ?_
      refine ax_s (pc' := 62) (ls' := [some (.ref 280), some (.int (nI j)), some (.int 0), some (.ref (8 + 1 * r)), some (.int (nI f)), some (.int (nI N)), some (.int (x ||| (1 <<< ((nI v) &&& 31)))), some (.int y), some (.int z), some (.int (nI v))]) (st' := []) rfl rfl rfl rfl ?_
      refine ax_s (pc' := 65) (ls' := [some (.ref 280), some (.int (nI j)), some (.int 0), some (.ref (8 + 1 * r)), some (.int (nI f)), some (.int (nI N)), some (.int (x ||| (1 <<< ((nI v) &&& 31)))), some (.int (y + 1)), some (.int z), some (.int (nI v))]) (st' := []) rfl rfl rfl rfl ?_
      refine ax_s (pc' := 67) (st' := [.int z]) rfl rfl rfl rfl ?_
      refine ax_s (pc' := 69) (st' := [.int (-1000000), .int z]) rfl rfl rfl rfl ?_
      refine ax_cmp_ne rfl (fun c5 => ?_) (fun c5 => ?_)
      · refine ax_s (pc' := 79) (st' := [.int z]) rfl rfl rfl rfl ?_
        refine ax_s (pc' := 81) (ls' := [some (.ref 280), some (.int (nI j)), some (.int 0), some (.ref (8 + 1 * r)), some (.int (nI f)), some (.int (nI N)), some (.int (x ||| (1 <<< ((nI v) &&& 31)))), some (.int (y + 1)), some (.int z), some (.int (nI v))]) (st' := []) rfl rfl rfl rfl ?_
        refine ax_s (pc' := 84) (ls' := [some (.ref 280), some (.int (nI j)), some (.int 0), some (.ref (8 + 1 * r)), some (.int (nI f)), some (.int (nI N)), some (.int (x ||| (1 <<< ((nI v) &&& 31)))), some (.int (y + 1)), some (.int z), some (.int ((nI v) + 1))]) (st' := []) rfl rfl rfl rfl ?_
        rw [nI_1]
        refine ax_s (pc' := 13) (st' := []) rfl rfl rfl rfl ?_
        exact k3 c1 W3 h3 c4 c5
      · refine ax_s (pc' := 74) (st' := [.int (nI v)]) rfl rfl rfl rfl ?_
        refine ax_s (pc' := 79) (st' := [.int (nI v)]) rfl rfl rfl rfl ?_
        refine ax_s (pc' := 81) (ls' := [some (.ref 280), some (.int (nI j)), some (.int 0), some (.ref (8 + 1 * r)), some (.int (nI f)), some (.int (nI N)), some (.int (x ||| (1 <<< ((nI v) &&& 31)))), some (.int (y + 1)), some (.int (nI v)), some (.int (nI v))]) (st' := []) rfl rfl rfl rfl ?_
        refine ax_s (pc' := 84) (ls' := [some (.ref 280), some (.int (nI j)), some (.int 0), some (.ref (8 + 1 * r)), some (.int (nI f)), some (.int (nI N)), some (.int (x ||| (1 <<< ((nI v) &&& 31)))), some (.int (y + 1)), some (.int (nI v)), some (.int ((nI v) + 1))]) (st' := []) rfl rfl rfl rfl ?_
        rw [nI_1]
        refine ax_s (pc' := 13) (st' := []) rfl rfl rfl rfl ?_
        exact k4 c1 W3 h3 c4 c5
theorem wl_guess1 {d : Nat} {X : Nat × (Nat → Int32)} {S : Nat → Nat → Int32} {L : Nat → Int64} {g n r f N j v : Nat} {W1 : Nat → Nat → Int32} {t : Nat → Int32} {x y z : Int32} {Q : Option Value → am_H → Prop} (hr : r < 8) (hfN : f + N ≤ 40) (ht : ∀ i, i < N → S (8 + 1 * r) (f + i) = t i) (hf : wF (am_sub S 20) g n) (hc1 : w_cl W1) (hc0 : w_cl (am_sub S 20)) (hj : j < 6)  (x1 : ¬ 9 < (nI v) → j < 6) (k1 : 9 < (nI v) → Q (some (.int x)) (am_hh X (am_ovl S 29 W1) L)) (k2 : ¬ 9 < (nI v) → ∀ W3 : Nat → Nat → Int32, w_cl W3 → (w_ls g n t N 0 (am_u (am_sub S 20) 3 j (nI v))) = false → am_ex (d + 8) 115 13 [some (.ref 280), some (.int (nI j)), some (.int 1), some (.ref (8 + 1 * r)), some (.int (nI f)), some (.int (nI N)), some (.int x), some (.int y), some (.int z), some (.int (nI (v + 1)))] [] (am_hh X (am_ovl S 29 W3) L) Q) (k3 : ¬ 9 < (nI v) → ∀ W3 : Nat → Nat → Int32, w_cl W3 → (w_ls g n t N 0 (am_u (am_sub S 20) 3 j (nI v))) = true → ¬ z = (-1000000) → am_ex (d + 8) 115 13 [some (.ref 280), some (.int (nI j)), some (.int 1), some (.ref (8 + 1 * r)), some (.int (nI f)), some (.int (nI N)), some (.int (x ||| (1 <<< ((nI v) &&& 31)))), some (.int (y + 1)), some (.int z), some (.int (nI (v + 1)))] [] (am_hh X (am_ovl S 29 W3) L) Q) (k4 : ¬ 9 < (nI v) → ∀ W3 : Nat → Nat → Int32, w_cl W3 → (w_ls g n t N 0 (am_u (am_sub S 20) 3 j (nI v))) = true → z = (-1000000) → am_ex (d + 8) 115 13 [some (.ref 280), some (.int (nI j)), some (.int 1), some (.ref (8 + 1 * r)), some (.int (nI f)), some (.int (nI N)), some (.int (x ||| (1 <<< ((nI v) &&& 31)))), some (.int (y + 1)), some (.int (nI v)), some (.int (nI (v + 1)))] [] (am_hh X (am_ovl S 29 W3) L) Q) : am_ex (d + 8) 115 13 [some (.ref 280), some (.int (nI j)), some (.int 1), some (.ref (8 + 1 * r)), some (.int (nI f)), some (.int (nI N)), some (.int x), some (.int y), some (.int z), some (.int (nI v))] [] (am_hh X (am_ovl S 29 W1) L) Q := by
  refine ax_s (pc' := 15) (st' := [.int (nI v)]) rfl rfl rfl rfl ?_
  refine ax_s (pc' := 16) (st' := [.int 1, .int (nI v)]) rfl rfl rfl rfl ?_
  refine ax_call (vs := [.int 1]) (rr := [.int (nI v)]) rfl rfl rfl ?_
  refine ax_in (ls := [some (.int 1)]) rfl ?_
  refine ax_s (pc' := 1) (st' := [.int 1]) rfl rfl rfl rfl ?_
  refine ax_s (pc' := 30) (ls' := [some (.int 1)]) (st' := []) (h1 := (am_hh X (am_ovl S 29 W1) L)) rfl rfl rfl rfl ?_
  refine ax_s (pc' := 32) (st' := [.int 9]) rfl rfl rfl rfl ?_
  refine ax_r rfl rfl rfl ?_
  show am_ex (d + 8) 115 19 [some (.ref 280), some (.int (nI j)), some (.int 1), some (.ref (8 + 1 * r)), some (.int (nI f)), some (.int (nI N)), some (.int x), some (.int y), some (.int z), some (.int (nI v))] [.int 9, .int (nI v)] (am_hh X (am_ovl S 29 W1) L) _
  refine ax_cmp_gt rfl (fun c1 => ?_) (fun c1 => ?_)
  · refine ax_s (pc' := 88) (st' := [.int 1]) rfl rfl rfl rfl ?_
    refine ax_s (pc' := 89) (st' := [.int 3, .int 1]) rfl rfl rfl rfl ?_
    refine ax_cmp_ge rfl (fun c2 => False.elim (by revert c2; decide)) (fun c2 => ?_)
    refine ax_s (pc' := 94) (st' := [.int x]) rfl rfl rfl rfl ?_
    refine ax_r rfl rfl rfl ?_
    exact k1 c1
  · refine ax_s (pc' := 23) (st' := [.ref 280]) rfl rfl rfl rfl ?_
    refine ax_get rfl (hh_280 _ _ _) rfl rfl rfl ?_
    show am_ex (d + 8) 115 26 [some (.ref 280), some (.int (nI j)), some (.int 1), some (.ref (8 + 1 * r)), some (.int (nI f)), some (.int (nI N)), some (.int x), some (.int y), some (.int z), some (.int (nI v))] [.ref 29] (am_hh X (am_ovl S 29 W1) L) _
    refine ax_s (pc' := 27) (st' := [.ref 280, .ref 29]) rfl rfl rfl rfl ?_
    refine ax_get rfl (hh_280 _ _ _) rfl rfl rfl ?_
    show am_ex (d + 8) 115 30 [some (.ref 280), some (.int (nI j)), some (.int 1), some (.ref (8 + 1 * r)), some (.int (nI f)), some (.int (nI N)), some (.int x), some (.int y), some (.int z), some (.int (nI v))] [.ref 20, .ref 29] (am_hh X (am_ovl S 29 W1) L) _
    refine ax_call (vs := [.ref 29, .ref 20]) (rr := []) rfl rfl rfl ?_
    refine kt_takeFrom29' hc1 hc0 ?_
    show am_ex (d + 8) 115 33 [some (.ref 280), some (.int (nI j)), some (.int 1), some (.ref (8 + 1 * r)), some (.int (nI f)), some (.int (nI N)), some (.int x), some (.int y), some (.int z), some (.int (nI v))] [] (am_hh X (am_ovl S 29 (am_sub S 20)) L) _
    refine ax_s (pc' := 34) (st' := [.ref 280]) rfl rfl rfl rfl ?_
    refine ax_s (pc' := 35) (st' := [.int (nI j), .ref 280]) rfl rfl rfl rfl ?_
    refine ax_s (pc' := 36) (st' := [.int 1, .int (nI j), .ref 280]) rfl rfl rfl rfl ?_
    refine ax_s (pc' := 38) (st' := [.int (nI v), .int 1, .int (nI j), .ref 280]) rfl rfl rfl rfl ?_
    refine ax_call (vs := [.ref 280, .int (nI j), .int 1, .int (nI v)]) (rr := []) rfl rfl rfl ?_
    refine ax_in (ls := [some (.ref 280), some (.int (nI j)), some (.int 1), some (.int (nI v))]) rfl ?_
    refine ax_s (pc' := 1) (st' := [.int 1]) rfl rfl rfl rfl ?_
    refine ax_s (pc' := 41) (ls' := [some (.ref 280), some (.int (nI j)), some (.int 1), some (.int (nI v))]) (st' := []) (h1 := (am_hh X (am_ovl S 29 (am_sub S 20)) L)) rfl rfl rfl rfl ?_
    refine ax_s (pc' := 42) (st' := [.ref 280]) rfl rfl rfl rfl ?_
    refine ax_get rfl (hh_280 _ _ _) rfl rfl rfl ?_
    show am_ex (d + 7) 117 45 [some (.ref 280), some (.int (nI j)), some (.int 1), some (.int (nI v))] [.ref 29] (am_hh X (am_ovl S 29 (am_sub S 20)) L) _
    refine ax_get rfl (hh_29 _ _ _) rfl rfl rfl ?_
    show am_ex (d + 7) 117 48 [some (.ref 280), some (.int (nI j)), some (.int 1), some (.int (nI v))] [.ref 32] (am_hh X (am_ovl S 29 (am_sub S 20)) L) _
    refine ax_s (pc' := 49) (st' := [.int (nI j), .ref 32]) rfl rfl rfl rfl ?_
    refine ax_s (pc' := 50) (st' := [.int (nI v), .int (nI j), .ref 32]) rfl rfl rfl rfl ?_
    refine ax_ast (j := j) rfl (hh_32 _ _ _) rfl rfl (x1 c1) (by decide) (am_hh_setW _ _ _ _ 3 j _ (by decide) rfl) ?_
    refine ax_s (pc' := 75) (st' := []) rfl rfl rfl rfl ?_
    refine ax_r rfl rfl rfl ?_
    show am_ex (d + 8) 115 41 [some (.ref 280), some (.int (nI j)), some (.int 1), some (.ref (8 + 1 * r)), some (.int (nI f)), some (.int (nI N)), some (.int x), some (.int y), some (.int z), some (.int (nI v))] [] (am_hh X (am_ovl S 29 (am_u (am_sub S 20) 3 j (nI v))) L) _
    refine ax_s (pc' := 42) (st' := [.ref 280]) rfl rfl rfl rfl ?_
    refine ax_s (pc' := 43) (st' := [.ref (8 + 1 * r), .ref 280]) rfl rfl rfl rfl ?_
    refine ax_s (pc' := 45) (st' := [.int (nI f), .ref (8 + 1 * r), .ref 280]) rfl rfl rfl rfl ?_
    refine ax_s (pc' := 47) (st' := [.int (nI N), .int (nI f), .ref (8 + 1 * r), .ref 280]) rfl rfl rfl rfl ?_
    refine ax_call (vs := [.ref 280, .ref (8 + 1 * r), .int (nI f), .int (nI N)]) (rr := []) rfl rfl rfl ?_
    refine kt_leansAs hr hfN ht (wF_u (c := 3) (i := j) (v := nI v) hf (by omega)) (w_cl_u hc0 (show j < 6 from hj)) (fun W3 h3 => ?_)
    show am_ex (d + 8) 115 50 [some (.ref 280), some (.int (nI j)), some (.int 1), some (.ref (8 + 1 * r)), some (.int (nI f)), some (.int (nI N)), some (.int x), some (.int y), some (.int z), some (.int (nI v))] [.int (bI (w_ls g n t N 0 (am_u (am_sub S 20) 3 j (nI v))))] (am_hh X (am_ovl S 29 W3) L) _
    refine ax_bF rfl (fun c4 => ?_) (fun c4 => ?_)
    · refine ax_s (pc' := 84) (ls' := [some (.ref 280), some (.int (nI j)), some (.int 1), some (.ref (8 + 1 * r)), some (.int (nI f)), some (.int (nI N)), some (.int x), some (.int y), some (.int z), some (.int ((nI v) + 1))]) (st' := []) rfl rfl rfl rfl ?_
      rw [nI_1]
      refine ax_s (pc' := 13) (st' := []) rfl rfl rfl rfl ?_
      exact k2 c1 W3 h3 c4
    · refine ax_s (pc' := 55) (st' := [.int x]) rfl rfl rfl rfl ?_
      refine ax_s (pc' := 56) (st' := [.int 1, .int x]) rfl rfl rfl rfl ?_
      refine ax_s (pc' := 58) (st' := [.int (nI v), .int 1, .int x]) rfl rfl rfl rfl ?_
      refine ax_s (pc' := 59) (st' := [.int (1 <<< ((nI v) &&& 31)), .int x]) rfl rfl rfl rfl ?_
      refine ax_s (pc' := 60) (st' := [.int (x ||| (1 <<< ((nI v) &&& 31)))]) rfl rfl rfl rfl ?_
      refine ax_s (pc' := 62) (ls' := [some (.ref 280), some (.int (nI j)), some (.int 1), some (.ref (8 + 1 * r)), some (.int (nI f)), some (.int (nI N)), some (.int (x ||| (1 <<< ((nI v) &&& 31)))), some (.int y), some (.int z), some (.int (nI v))]) (st' := []) rfl rfl rfl rfl ?_
      refine ax_s (pc' := 65) (ls' := [some (.ref 280), some (.int (nI j)), some (.int 1), some (.ref (8 + 1 * r)), some (.int (nI f)), some (.int (nI N)), some (.int (x ||| (1 <<< ((nI v) &&& 31)))), some (.int (y + 1)), some (.int z), some (.int (nI v))]) (st' := []) rfl rfl rfl rfl ?_
      refine ax_s (pc' := 67) (st' := [.int z]) rfl rfl rfl rfl ?_
      refine ax_s (pc' := 69) (st' := [.int (-1000000), .int z]) rfl rfl rfl rfl ?_
      refine ax_cmp_ne rfl (fun c5 => ?_) (fun c5 => ?_)
      · refine ax_s (pc' := 79) (st' := [.int z]) rfl rfl rfl rfl ?_
        refine ax_s (pc' := 81) (ls' := [some (.ref 280), some (.int (nI j)), some (.int 1), some (.ref (8 + 1 * r)), some (.int (nI f)), some (.int (nI N)), some (.int (x ||| (1 <<< ((nI v) &&& 31)))), some (.int (y + 1)), some (.int z), some (.int (nI v))]) (st' := []) rfl rfl rfl rfl ?_
        refine ax_s (pc' := 84) (ls' := [some (.ref 280), some (.int (nI j)), some (.int 1), some (.ref (8 + 1 * r)), some (.int (nI f)), some (.int (nI N)), some (.int (x ||| (1 <<< ((nI v) &&& 31)))), some (.int (y + 1)), some (.int z), some (.int ((nI v) + 1))]) (st' := []) rfl rfl rfl rfl ?_
        rw [nI_1]
        refine ax_s (pc' := 13) (st' := []) rfl rfl rfl rfl ?_
        exact k3 c1 W3 h3 c4 c5
      · refine ax_s (pc' := 74) (st' := [.int (nI v)]) rfl rfl rfl rfl ?_
        refine ax_s (pc' := 79) (st' := [.int (nI v)]) rfl rfl rfl rfl ?_
        refine ax_s (pc' := 81) (ls' := [some (.ref 280), some (.int (nI j)), some (.int 1), some (.ref (8 + 1 * r)), some (.int (nI f)), some (.int (nI N)), some (.int (x ||| (1 <<< ((nI v) &&& 31)))), some (.int (y + 1)), some (.int (nI v)), some (.int (nI v))]) (st' := []) rfl rfl rfl rfl ?_
        refine ax_s (pc' := 84) (ls' := [some (.ref 280), some (.int (nI j)), some (.int 1), some (.ref (8 + 1 * r)), some (.int (nI f)), some (.int (nI N)), some (.int (x ||| (1 <<< ((nI v) &&& 31)))), some (.int (y + 1)), some (.int (nI v)), some (.int ((nI v) + 1))]) (st' := []) rfl rfl rfl rfl ?_
        rw [nI_1]
        refine ax_s (pc' := 13) (st' := []) rfl rfl rfl rfl ?_
        exact k4 c1 W3 h3 c4 c5
theorem wl_guess2 {d : Nat} {X : Nat × (Nat → Int32)} {S : Nat → Nat → Int32} {L : Nat → Int64} {g n r f N j v : Nat} {W1 : Nat → Nat → Int32} {t : Nat → Int32} {x y z : Int32} {Q : Option Value → am_H → Prop} (hr : r < 8) (hfN : f + N ≤ 40) (ht : ∀ i, i < N → S (8 + 1 * r) (f + i) = t i) (hf : wF (am_sub S 20) g n) (hc1 : w_cl W1) (hc0 : w_cl (am_sub S 20)) (hj : j < 6)  (x1 : ¬ 4 < (nI v) → j < 6) (k1 : 4 < (nI v) → Q (some (.int x)) (am_hh X (am_ovl S 29 W1) L)) (k2 : ¬ 4 < (nI v) → ∀ W3 : Nat → Nat → Int32, w_cl W3 → (w_ls g n t N 0 (am_u (am_sub S 20) 4 j (nI v))) = false → am_ex (d + 8) 115 13 [some (.ref 280), some (.int (nI j)), some (.int 2), some (.ref (8 + 1 * r)), some (.int (nI f)), some (.int (nI N)), some (.int x), some (.int y), some (.int z), some (.int (nI (v + 1)))] [] (am_hh X (am_ovl S 29 W3) L) Q) (k3 : ¬ 4 < (nI v) → ∀ W3 : Nat → Nat → Int32, w_cl W3 → (w_ls g n t N 0 (am_u (am_sub S 20) 4 j (nI v))) = true → ¬ z = (-1000000) → am_ex (d + 8) 115 13 [some (.ref 280), some (.int (nI j)), some (.int 2), some (.ref (8 + 1 * r)), some (.int (nI f)), some (.int (nI N)), some (.int (x ||| (1 <<< ((nI v) &&& 31)))), some (.int (y + 1)), some (.int z), some (.int (nI (v + 1)))] [] (am_hh X (am_ovl S 29 W3) L) Q) (k4 : ¬ 4 < (nI v) → ∀ W3 : Nat → Nat → Int32, w_cl W3 → (w_ls g n t N 0 (am_u (am_sub S 20) 4 j (nI v))) = true → z = (-1000000) → am_ex (d + 8) 115 13 [some (.ref 280), some (.int (nI j)), some (.int 2), some (.ref (8 + 1 * r)), some (.int (nI f)), some (.int (nI N)), some (.int (x ||| (1 <<< ((nI v) &&& 31)))), some (.int (y + 1)), some (.int (nI v)), some (.int (nI (v + 1)))] [] (am_hh X (am_ovl S 29 W3) L) Q) : am_ex (d + 8) 115 13 [some (.ref 280), some (.int (nI j)), some (.int 2), some (.ref (8 + 1 * r)), some (.int (nI f)), some (.int (nI N)), some (.int x), some (.int y), some (.int z), some (.int (nI v))] [] (am_hh X (am_ovl S 29 W1) L) Q := by
  refine ax_s (pc' := 15) (st' := [.int (nI v)]) rfl rfl rfl rfl ?_
  refine ax_s (pc' := 16) (st' := [.int 2, .int (nI v)]) rfl rfl rfl rfl ?_
  refine ax_call (vs := [.int 2]) (rr := [.int (nI v)]) rfl rfl rfl ?_
  refine ax_in (ls := [some (.int 2)]) rfl ?_
  refine ax_s (pc' := 1) (st' := [.int 2]) rfl rfl rfl rfl ?_
  refine ax_s (pc' := 33) (ls' := [some (.int 2)]) (st' := []) (h1 := (am_hh X (am_ovl S 29 W1) L)) rfl rfl rfl rfl ?_
  refine ax_s (pc' := 34) (st' := [.int 4]) rfl rfl rfl rfl ?_
  refine ax_r rfl rfl rfl ?_
  show am_ex (d + 8) 115 19 [some (.ref 280), some (.int (nI j)), some (.int 2), some (.ref (8 + 1 * r)), some (.int (nI f)), some (.int (nI N)), some (.int x), some (.int y), some (.int z), some (.int (nI v))] [.int 4, .int (nI v)] (am_hh X (am_ovl S 29 W1) L) _
  refine ax_cmp_gt rfl (fun c1 => ?_) (fun c1 => ?_)
  · refine ax_s (pc' := 88) (st' := [.int 2]) rfl rfl rfl rfl ?_
    refine ax_s (pc' := 89) (st' := [.int 3, .int 2]) rfl rfl rfl rfl ?_
    refine ax_cmp_ge rfl (fun c2 => False.elim (by revert c2; decide)) (fun c2 => ?_)
    refine ax_s (pc' := 94) (st' := [.int x]) rfl rfl rfl rfl ?_
    refine ax_r rfl rfl rfl ?_
    exact k1 c1
  · refine ax_s (pc' := 23) (st' := [.ref 280]) rfl rfl rfl rfl ?_
    refine ax_get rfl (hh_280 _ _ _) rfl rfl rfl ?_
    show am_ex (d + 8) 115 26 [some (.ref 280), some (.int (nI j)), some (.int 2), some (.ref (8 + 1 * r)), some (.int (nI f)), some (.int (nI N)), some (.int x), some (.int y), some (.int z), some (.int (nI v))] [.ref 29] (am_hh X (am_ovl S 29 W1) L) _
    refine ax_s (pc' := 27) (st' := [.ref 280, .ref 29]) rfl rfl rfl rfl ?_
    refine ax_get rfl (hh_280 _ _ _) rfl rfl rfl ?_
    show am_ex (d + 8) 115 30 [some (.ref 280), some (.int (nI j)), some (.int 2), some (.ref (8 + 1 * r)), some (.int (nI f)), some (.int (nI N)), some (.int x), some (.int y), some (.int z), some (.int (nI v))] [.ref 20, .ref 29] (am_hh X (am_ovl S 29 W1) L) _
    refine ax_call (vs := [.ref 29, .ref 20]) (rr := []) rfl rfl rfl ?_
    refine kt_takeFrom29' hc1 hc0 ?_
    show am_ex (d + 8) 115 33 [some (.ref 280), some (.int (nI j)), some (.int 2), some (.ref (8 + 1 * r)), some (.int (nI f)), some (.int (nI N)), some (.int x), some (.int y), some (.int z), some (.int (nI v))] [] (am_hh X (am_ovl S 29 (am_sub S 20)) L) _
    refine ax_s (pc' := 34) (st' := [.ref 280]) rfl rfl rfl rfl ?_
    refine ax_s (pc' := 35) (st' := [.int (nI j), .ref 280]) rfl rfl rfl rfl ?_
    refine ax_s (pc' := 36) (st' := [.int 2, .int (nI j), .ref 280]) rfl rfl rfl rfl ?_
    refine ax_s (pc' := 38) (st' := [.int (nI v), .int 2, .int (nI j), .ref 280]) rfl rfl rfl rfl ?_
    refine ax_call (vs := [.ref 280, .int (nI j), .int 2, .int (nI v)]) (rr := []) rfl rfl rfl ?_
    refine ax_in (ls := [some (.ref 280), some (.int (nI j)), some (.int 2), some (.int (nI v))]) rfl ?_
    refine ax_s (pc' := 1) (st' := [.int 2]) rfl rfl rfl rfl ?_
    refine ax_s (pc' := 54) (ls' := [some (.ref 280), some (.int (nI j)), some (.int 2), some (.int (nI v))]) (st' := []) (h1 := (am_hh X (am_ovl S 29 (am_sub S 20)) L)) rfl rfl rfl rfl ?_
    refine ax_s (pc' := 55) (st' := [.ref 280]) rfl rfl rfl rfl ?_
    refine ax_get rfl (hh_280 _ _ _) rfl rfl rfl ?_
    show am_ex (d + 7) 117 58 [some (.ref 280), some (.int (nI j)), some (.int 2), some (.int (nI v))] [.ref 29] (am_hh X (am_ovl S 29 (am_sub S 20)) L) _
    refine ax_get rfl (hh_29 _ _ _) rfl rfl rfl ?_
    show am_ex (d + 7) 117 61 [some (.ref 280), some (.int (nI j)), some (.int 2), some (.int (nI v))] [.ref 33] (am_hh X (am_ovl S 29 (am_sub S 20)) L) _
    refine ax_s (pc' := 62) (st' := [.int (nI j), .ref 33]) rfl rfl rfl rfl ?_
    refine ax_s (pc' := 63) (st' := [.int (nI v), .int (nI j), .ref 33]) rfl rfl rfl rfl ?_
    refine ax_ast (j := j) rfl (hh_33 _ _ _) rfl rfl (x1 c1) (by decide) (am_hh_setW _ _ _ _ 4 j _ (by decide) rfl) ?_
    refine ax_s (pc' := 75) (st' := []) rfl rfl rfl rfl ?_
    refine ax_r rfl rfl rfl ?_
    show am_ex (d + 8) 115 41 [some (.ref 280), some (.int (nI j)), some (.int 2), some (.ref (8 + 1 * r)), some (.int (nI f)), some (.int (nI N)), some (.int x), some (.int y), some (.int z), some (.int (nI v))] [] (am_hh X (am_ovl S 29 (am_u (am_sub S 20) 4 j (nI v))) L) _
    refine ax_s (pc' := 42) (st' := [.ref 280]) rfl rfl rfl rfl ?_
    refine ax_s (pc' := 43) (st' := [.ref (8 + 1 * r), .ref 280]) rfl rfl rfl rfl ?_
    refine ax_s (pc' := 45) (st' := [.int (nI f), .ref (8 + 1 * r), .ref 280]) rfl rfl rfl rfl ?_
    refine ax_s (pc' := 47) (st' := [.int (nI N), .int (nI f), .ref (8 + 1 * r), .ref 280]) rfl rfl rfl rfl ?_
    refine ax_call (vs := [.ref 280, .ref (8 + 1 * r), .int (nI f), .int (nI N)]) (rr := []) rfl rfl rfl ?_
    refine kt_leansAs hr hfN ht (wF_u (c := 4) (i := j) (v := nI v) hf (by omega)) (w_cl_u hc0 (show j < 6 from hj)) (fun W3 h3 => ?_)
    show am_ex (d + 8) 115 50 [some (.ref 280), some (.int (nI j)), some (.int 2), some (.ref (8 + 1 * r)), some (.int (nI f)), some (.int (nI N)), some (.int x), some (.int y), some (.int z), some (.int (nI v))] [.int (bI (w_ls g n t N 0 (am_u (am_sub S 20) 4 j (nI v))))] (am_hh X (am_ovl S 29 W3) L) _
    refine ax_bF rfl (fun c4 => ?_) (fun c4 => ?_)
    · refine ax_s (pc' := 84) (ls' := [some (.ref 280), some (.int (nI j)), some (.int 2), some (.ref (8 + 1 * r)), some (.int (nI f)), some (.int (nI N)), some (.int x), some (.int y), some (.int z), some (.int ((nI v) + 1))]) (st' := []) rfl rfl rfl rfl ?_
      rw [nI_1]
      refine ax_s (pc' := 13) (st' := []) rfl rfl rfl rfl ?_
      exact k2 c1 W3 h3 c4
    · refine ax_s (pc' := 55) (st' := [.int x]) rfl rfl rfl rfl ?_
      refine ax_s (pc' := 56) (st' := [.int 1, .int x]) rfl rfl rfl rfl ?_
      refine ax_s (pc' := 58) (st' := [.int (nI v), .int 1, .int x]) rfl rfl rfl rfl ?_
      refine ax_s (pc' := 59) (st' := [.int (1 <<< ((nI v) &&& 31)), .int x]) rfl rfl rfl rfl ?_
      refine ax_s (pc' := 60) (st' := [.int (x ||| (1 <<< ((nI v) &&& 31)))]) rfl rfl rfl rfl ?_
      refine ax_s (pc' := 62) (ls' := [some (.ref 280), some (.int (nI j)), some (.int 2), some (.ref (8 + 1 * r)), some (.int (nI f)), some (.int (nI N)), some (.int (x ||| (1 <<< ((nI v) &&& 31)))), some (.int y), some (.int z), some (.int (nI v))]) (st' := []) rfl rfl rfl rfl ?_
      refine ax_s (pc' := 65) (ls' := [some (.ref 280), some (.int (nI j)), some (.int 2), some (.ref (8 + 1 * r)), some (.int (nI f)), some (.int (nI N)), some (.int (x ||| (1 <<< ((nI v) &&& 31)))), some (.int (y + 1)), some (.int z), some (.int (nI v))]) (st' := []) rfl rfl rfl rfl ?_
      refine ax_s (pc' := 67) (st' := [.int z]) rfl rfl rfl rfl ?_
      refine ax_s (pc' := 69) (st' := [.int (-1000000), .int z]) rfl rfl rfl rfl ?_
      refine ax_cmp_ne rfl (fun c5 => ?_) (fun c5 => ?_)
      · refine ax_s (pc' := 79) (st' := [.int z]) rfl rfl rfl rfl ?_
        refine ax_s (pc' := 81) (ls' := [some (.ref 280), some (.int (nI j)), some (.int 2), some (.ref (8 + 1 * r)), some (.int (nI f)), some (.int (nI N)), some (.int (x ||| (1 <<< ((nI v) &&& 31)))), some (.int (y + 1)), some (.int z), some (.int (nI v))]) (st' := []) rfl rfl rfl rfl ?_
        refine ax_s (pc' := 84) (ls' := [some (.ref 280), some (.int (nI j)), some (.int 2), some (.ref (8 + 1 * r)), some (.int (nI f)), some (.int (nI N)), some (.int (x ||| (1 <<< ((nI v) &&& 31)))), some (.int (y + 1)), some (.int z), some (.int ((nI v) + 1))]) (st' := []) rfl rfl rfl rfl ?_
        rw [nI_1]
        refine ax_s (pc' := 13) (st' := []) rfl rfl rfl rfl ?_
        exact k3 c1 W3 h3 c4 c5
      · refine ax_s (pc' := 74) (st' := [.int (nI v)]) rfl rfl rfl rfl ?_
        refine ax_s (pc' := 79) (st' := [.int (nI v)]) rfl rfl rfl rfl ?_
        refine ax_s (pc' := 81) (ls' := [some (.ref 280), some (.int (nI j)), some (.int 2), some (.ref (8 + 1 * r)), some (.int (nI f)), some (.int (nI N)), some (.int (x ||| (1 <<< ((nI v) &&& 31)))), some (.int (y + 1)), some (.int (nI v)), some (.int (nI v))]) (st' := []) rfl rfl rfl rfl ?_
        refine ax_s (pc' := 84) (ls' := [some (.ref 280), some (.int (nI j)), some (.int 2), some (.ref (8 + 1 * r)), some (.int (nI f)), some (.int (nI N)), some (.int (x ||| (1 <<< ((nI v) &&& 31)))), some (.int (y + 1)), some (.int (nI v)), some (.int ((nI v) + 1))]) (st' := []) rfl rfl rfl rfl ?_
        rw [nI_1]
        refine ax_s (pc' := 13) (st' := []) rfl rfl rfl rfl ?_
        exact k4 c1 W3 h3 c4 c5
theorem wl_guess3 {d : Nat} {X : Nat × (Nat → Int32)} {S : Nat → Nat → Int32} {L : Nat → Int64} {g n r f N j v : Nat} {W1 : Nat → Nat → Int32} {t : Nat → Int32} {x y z : Int32} {Q : Option Value → am_H → Prop} (hr : r < 8) (hfN : f + N ≤ 40) (ht : ∀ i, i < N → S (8 + 1 * r) (f + i) = t i) (hf : wF (am_sub S 20) g n) (hc1 : w_cl W1) (hc0 : w_cl (am_sub S 20)) (hj : j < 6)  (k1 : 99 < (nI v) → Q (some (.int y)) (am_hh X (am_ovl S 29 W1) L)) (k2 : ¬ 99 < (nI v) → ∀ W4 : Nat → Nat → Int32, w_cl W4 → (w_ls g n t N 0 (am_u (am_sub S 20) 0 1 (nI v))) = false → am_ex (d + 8) 115 13 [some (.ref 280), some (.int (nI j)), some (.int 3), some (.ref (8 + 1 * r)), some (.int (nI f)), some (.int (nI N)), some (.int x), some (.int y), some (.int z), some (.int (nI (v + 1)))] [] (am_hh X (am_ovl S 29 W4) L) Q) (k3 : ¬ 99 < (nI v) → ∀ W4 : Nat → Nat → Int32, w_cl W4 → (w_ls g n t N 0 (am_u (am_sub S 20) 0 1 (nI v))) = true → ¬ z = (-1000000) → am_ex (d + 8) 115 13 [some (.ref 280), some (.int (nI j)), some (.int 3), some (.ref (8 + 1 * r)), some (.int (nI f)), some (.int (nI N)), some (.int (x ||| (1 <<< ((nI v) &&& 31)))), some (.int (y + 1)), some (.int z), some (.int (nI (v + 1)))] [] (am_hh X (am_ovl S 29 W4) L) Q) (k4 : ¬ 99 < (nI v) → ∀ W4 : Nat → Nat → Int32, w_cl W4 → (w_ls g n t N 0 (am_u (am_sub S 20) 0 1 (nI v))) = true → z = (-1000000) → am_ex (d + 8) 115 13 [some (.ref 280), some (.int (nI j)), some (.int 3), some (.ref (8 + 1 * r)), some (.int (nI f)), some (.int (nI N)), some (.int (x ||| (1 <<< ((nI v) &&& 31)))), some (.int (y + 1)), some (.int (nI v)), some (.int (nI (v + 1)))] [] (am_hh X (am_ovl S 29 W4) L) Q) : am_ex (d + 8) 115 13 [some (.ref 280), some (.int (nI j)), some (.int 3), some (.ref (8 + 1 * r)), some (.int (nI f)), some (.int (nI N)), some (.int x), some (.int y), some (.int z), some (.int (nI v))] [] (am_hh X (am_ovl S 29 W1) L) Q := by
  refine ax_s (pc' := 15) (st' := [.int (nI v)]) rfl rfl rfl rfl ?_
  refine ax_s (pc' := 16) (st' := [.int 3, .int (nI v)]) rfl rfl rfl rfl ?_
  refine ax_call (vs := [.int 3]) (rr := [.int (nI v)]) rfl rfl rfl ?_
  refine ax_in (ls := [some (.int 3)]) rfl ?_
  refine ax_s (pc' := 1) (st' := [.int 3]) rfl rfl rfl rfl ?_
  refine ax_s (pc' := 35) (ls' := [some (.int 3)]) (st' := []) (h1 := (am_hh X (am_ovl S 29 W1) L)) rfl rfl rfl rfl ?_
  refine ax_s (pc' := 37) (st' := [.int 99]) rfl rfl rfl rfl ?_
  refine ax_r rfl rfl rfl ?_
  show am_ex (d + 8) 115 19 [some (.ref 280), some (.int (nI j)), some (.int 3), some (.ref (8 + 1 * r)), some (.int (nI f)), some (.int (nI N)), some (.int x), some (.int y), some (.int z), some (.int (nI v))] [.int 99, .int (nI v)] (am_hh X (am_ovl S 29 W1) L) _
  refine ax_cmp_gt rfl (fun c1 => ?_) (fun c1 => ?_)
  · refine ax_s (pc' := 88) (st' := [.int 3]) rfl rfl rfl rfl ?_
    refine ax_s (pc' := 89) (st' := [.int 3, .int 3]) rfl rfl rfl rfl ?_
    refine ax_cmp_ge rfl (fun c2 => ?_) (fun c2 => False.elim (by revert c2; decide))
    refine ax_s (pc' := 96) (st' := [.int 3]) rfl rfl rfl rfl ?_
    refine ax_s (pc' := 97) (st' := [.int 3, .int 3]) rfl rfl rfl rfl ?_
    refine ax_cmp_ne rfl (fun c3 => False.elim (by revert c3; decide)) (fun c3 => ?_)
    refine ax_s (pc' := 102) (st' := [.int y]) rfl rfl rfl rfl ?_
    refine ax_s (pc' := 107) (st' := [.int y]) rfl rfl rfl rfl ?_
    refine ax_r rfl rfl rfl ?_
    exact k1 c1
  · refine ax_s (pc' := 23) (st' := [.ref 280]) rfl rfl rfl rfl ?_
    refine ax_get rfl (hh_280 _ _ _) rfl rfl rfl ?_
    show am_ex (d + 8) 115 26 [some (.ref 280), some (.int (nI j)), some (.int 3), some (.ref (8 + 1 * r)), some (.int (nI f)), some (.int (nI N)), some (.int x), some (.int y), some (.int z), some (.int (nI v))] [.ref 29] (am_hh X (am_ovl S 29 W1) L) _
    refine ax_s (pc' := 27) (st' := [.ref 280, .ref 29]) rfl rfl rfl rfl ?_
    refine ax_get rfl (hh_280 _ _ _) rfl rfl rfl ?_
    show am_ex (d + 8) 115 30 [some (.ref 280), some (.int (nI j)), some (.int 3), some (.ref (8 + 1 * r)), some (.int (nI f)), some (.int (nI N)), some (.int x), some (.int y), some (.int z), some (.int (nI v))] [.ref 20, .ref 29] (am_hh X (am_ovl S 29 W1) L) _
    refine ax_call (vs := [.ref 29, .ref 20]) (rr := []) rfl rfl rfl ?_
    refine kt_takeFrom29' hc1 hc0 ?_
    show am_ex (d + 8) 115 33 [some (.ref 280), some (.int (nI j)), some (.int 3), some (.ref (8 + 1 * r)), some (.int (nI f)), some (.int (nI N)), some (.int x), some (.int y), some (.int z), some (.int (nI v))] [] (am_hh X (am_ovl S 29 (am_sub S 20)) L) _
    refine ax_s (pc' := 34) (st' := [.ref 280]) rfl rfl rfl rfl ?_
    refine ax_s (pc' := 35) (st' := [.int (nI j), .ref 280]) rfl rfl rfl rfl ?_
    refine ax_s (pc' := 36) (st' := [.int 3, .int (nI j), .ref 280]) rfl rfl rfl rfl ?_
    refine ax_s (pc' := 38) (st' := [.int (nI v), .int 3, .int (nI j), .ref 280]) rfl rfl rfl rfl ?_
    refine ax_call (vs := [.ref 280, .int (nI j), .int 3, .int (nI v)]) (rr := []) rfl rfl rfl ?_
    refine ax_in (ls := [some (.ref 280), some (.int (nI j)), some (.int 3), some (.int (nI v))]) rfl ?_
    refine ax_s (pc' := 1) (st' := [.int 3]) rfl rfl rfl rfl ?_
    refine ax_s (pc' := 67) (ls' := [some (.ref 280), some (.int (nI j)), some (.int 3), some (.int (nI v))]) (st' := []) (h1 := (am_hh X (am_ovl S 29 (am_sub S 20)) L)) rfl rfl rfl rfl ?_
    refine ax_s (pc' := 68) (st' := [.ref 280]) rfl rfl rfl rfl ?_
    refine ax_get rfl (hh_280 _ _ _) rfl rfl rfl ?_
    show am_ex (d + 7) 117 71 [some (.ref 280), some (.int (nI j)), some (.int 3), some (.int (nI v))] [.ref 29] (am_hh X (am_ovl S 29 (am_sub S 20)) L) _
    refine ax_s (pc' := 72) (st' := [.int (nI v), .ref 29]) rfl rfl rfl rfl ?_
    refine ax_put rfl (hh_29 _ _ _) rfl rfl (show 1 + 1 ≤ _ from Nat.le_of_ble_eq_true rfl) rfl (am_hh_setW _ _ _ _ 0 1 _ (by decide) rfl) ?_
    refine ax_r rfl rfl rfl ?_
    show am_ex (d + 8) 115 41 [some (.ref 280), some (.int (nI j)), some (.int 3), some (.ref (8 + 1 * r)), some (.int (nI f)), some (.int (nI N)), some (.int x), some (.int y), some (.int z), some (.int (nI v))] [] (am_hh X (am_ovl S 29 (am_u (am_sub S 20) 0 1 (nI v))) L) _
    refine ax_s (pc' := 42) (st' := [.ref 280]) rfl rfl rfl rfl ?_
    refine ax_s (pc' := 43) (st' := [.ref (8 + 1 * r), .ref 280]) rfl rfl rfl rfl ?_
    refine ax_s (pc' := 45) (st' := [.int (nI f), .ref (8 + 1 * r), .ref 280]) rfl rfl rfl rfl ?_
    refine ax_s (pc' := 47) (st' := [.int (nI N), .int (nI f), .ref (8 + 1 * r), .ref 280]) rfl rfl rfl rfl ?_
    refine ax_call (vs := [.ref 280, .ref (8 + 1 * r), .int (nI f), .int (nI N)]) (rr := []) rfl rfl rfl ?_
    refine kt_leansAs hr hfN ht (wF_u (c := 0) (i := 1) (v := nI v) hf (by omega)) (w_cl_u hc0 (show 1 < 5 by decide)) (fun W4 h4 => ?_)
    show am_ex (d + 8) 115 50 [some (.ref 280), some (.int (nI j)), some (.int 3), some (.ref (8 + 1 * r)), some (.int (nI f)), some (.int (nI N)), some (.int x), some (.int y), some (.int z), some (.int (nI v))] [.int (bI (w_ls g n t N 0 (am_u (am_sub S 20) 0 1 (nI v))))] (am_hh X (am_ovl S 29 W4) L) _
    refine ax_bF rfl (fun c5 => ?_) (fun c5 => ?_)
    · refine ax_s (pc' := 84) (ls' := [some (.ref 280), some (.int (nI j)), some (.int 3), some (.ref (8 + 1 * r)), some (.int (nI f)), some (.int (nI N)), some (.int x), some (.int y), some (.int z), some (.int ((nI v) + 1))]) (st' := []) rfl rfl rfl rfl ?_
      rw [nI_1]
      refine ax_s (pc' := 13) (st' := []) rfl rfl rfl rfl ?_
      exact k2 c1 W4 h4 c5
    · refine ax_s (pc' := 55) (st' := [.int x]) rfl rfl rfl rfl ?_
      refine ax_s (pc' := 56) (st' := [.int 1, .int x]) rfl rfl rfl rfl ?_
      refine ax_s (pc' := 58) (st' := [.int (nI v), .int 1, .int x]) rfl rfl rfl rfl ?_
      refine ax_s (pc' := 59) (st' := [.int (1 <<< ((nI v) &&& 31)), .int x]) rfl rfl rfl rfl ?_
      refine ax_s (pc' := 60) (st' := [.int (x ||| (1 <<< ((nI v) &&& 31)))]) rfl rfl rfl rfl ?_
      refine ax_s (pc' := 62) (ls' := [some (.ref 280), some (.int (nI j)), some (.int 3), some (.ref (8 + 1 * r)), some (.int (nI f)), some (.int (nI N)), some (.int (x ||| (1 <<< ((nI v) &&& 31)))), some (.int y), some (.int z), some (.int (nI v))]) (st' := []) rfl rfl rfl rfl ?_
      refine ax_s (pc' := 65) (ls' := [some (.ref 280), some (.int (nI j)), some (.int 3), some (.ref (8 + 1 * r)), some (.int (nI f)), some (.int (nI N)), some (.int (x ||| (1 <<< ((nI v) &&& 31)))), some (.int (y + 1)), some (.int z), some (.int (nI v))]) (st' := []) rfl rfl rfl rfl ?_
      refine ax_s (pc' := 67) (st' := [.int z]) rfl rfl rfl rfl ?_
      refine ax_s (pc' := 69) (st' := [.int (-1000000), .int z]) rfl rfl rfl rfl ?_
      refine ax_cmp_ne rfl (fun c6 => ?_) (fun c6 => ?_)
      · refine ax_s (pc' := 79) (st' := [.int z]) rfl rfl rfl rfl ?_
        refine ax_s (pc' := 81) (ls' := [some (.ref 280), some (.int (nI j)), some (.int 3), some (.ref (8 + 1 * r)), some (.int (nI f)), some (.int (nI N)), some (.int (x ||| (1 <<< ((nI v) &&& 31)))), some (.int (y + 1)), some (.int z), some (.int (nI v))]) (st' := []) rfl rfl rfl rfl ?_
        refine ax_s (pc' := 84) (ls' := [some (.ref 280), some (.int (nI j)), some (.int 3), some (.ref (8 + 1 * r)), some (.int (nI f)), some (.int (nI N)), some (.int (x ||| (1 <<< ((nI v) &&& 31)))), some (.int (y + 1)), some (.int z), some (.int ((nI v) + 1))]) (st' := []) rfl rfl rfl rfl ?_
        rw [nI_1]
        refine ax_s (pc' := 13) (st' := []) rfl rfl rfl rfl ?_
        exact k3 c1 W4 h4 c5 c6
      · refine ax_s (pc' := 74) (st' := [.int (nI v)]) rfl rfl rfl rfl ?_
        refine ax_s (pc' := 79) (st' := [.int (nI v)]) rfl rfl rfl rfl ?_
        refine ax_s (pc' := 81) (ls' := [some (.ref 280), some (.int (nI j)), some (.int 3), some (.ref (8 + 1 * r)), some (.int (nI f)), some (.int (nI N)), some (.int (x ||| (1 <<< ((nI v) &&& 31)))), some (.int (y + 1)), some (.int (nI v)), some (.int (nI v))]) (st' := []) rfl rfl rfl rfl ?_
        refine ax_s (pc' := 84) (ls' := [some (.ref 280), some (.int (nI j)), some (.int 3), some (.ref (8 + 1 * r)), some (.int (nI f)), some (.int (nI N)), some (.int (x ||| (1 <<< ((nI v) &&& 31)))), some (.int (y + 1)), some (.int (nI v)), some (.int ((nI v) + 1))]) (st' := []) rfl rfl rfl rfl ?_
        rw [nI_1]
        refine ax_s (pc' := 13) (st' := []) rfl rfl rfl rfl ?_
        exact k4 c1 W4 h4 c5 c6
theorem wl_guess4 {d : Nat} {X : Nat × (Nat → Int32)} {S : Nat → Nat → Int32} {L : Nat → Int64} {g n r f N j v : Nat} {W1 : Nat → Nat → Int32} {t : Nat → Int32} {x y z : Int32} {Q : Option Value → am_H → Prop} (hr : r < 8) (hfN : f + N ≤ 40) (ht : ∀ i, i < N → S (8 + 1 * r) (f + i) = t i) (hf : wF (am_sub S 20) g n) (hc1 : w_cl W1) (hc0 : w_cl (am_sub S 20)) (hj : j < 6)  (k1 : 99 < (nI v) → Q (some (.int z)) (am_hh X (am_ovl S 29 W1) L)) (k2 : ¬ 99 < (nI v) → ∀ W4 : Nat → Nat → Int32, w_cl W4 → (w_ls g n t N 0 (am_u (am_sub S 20) 0 1 (nI v))) = false → am_ex (d + 8) 115 13 [some (.ref 280), some (.int (nI j)), some (.int 4), some (.ref (8 + 1 * r)), some (.int (nI f)), some (.int (nI N)), some (.int x), some (.int y), some (.int z), some (.int (nI (v + 1)))] [] (am_hh X (am_ovl S 29 W4) L) Q) (k3 : ¬ 99 < (nI v) → ∀ W4 : Nat → Nat → Int32, w_cl W4 → (w_ls g n t N 0 (am_u (am_sub S 20) 0 1 (nI v))) = true → ¬ z = (-1000000) → am_ex (d + 8) 115 13 [some (.ref 280), some (.int (nI j)), some (.int 4), some (.ref (8 + 1 * r)), some (.int (nI f)), some (.int (nI N)), some (.int (x ||| (1 <<< ((nI v) &&& 31)))), some (.int (y + 1)), some (.int z), some (.int (nI (v + 1)))] [] (am_hh X (am_ovl S 29 W4) L) Q) (k4 : ¬ 99 < (nI v) → ∀ W4 : Nat → Nat → Int32, w_cl W4 → (w_ls g n t N 0 (am_u (am_sub S 20) 0 1 (nI v))) = true → z = (-1000000) → am_ex (d + 8) 115 13 [some (.ref 280), some (.int (nI j)), some (.int 4), some (.ref (8 + 1 * r)), some (.int (nI f)), some (.int (nI N)), some (.int (x ||| (1 <<< ((nI v) &&& 31)))), some (.int (y + 1)), some (.int (nI v)), some (.int (nI (v + 1)))] [] (am_hh X (am_ovl S 29 W4) L) Q) : am_ex (d + 8) 115 13 [some (.ref 280), some (.int (nI j)), some (.int 4), some (.ref (8 + 1 * r)), some (.int (nI f)), some (.int (nI N)), some (.int x), some (.int y), some (.int z), some (.int (nI v))] [] (am_hh X (am_ovl S 29 W1) L) Q := by
  refine ax_s (pc' := 15) (st' := [.int (nI v)]) rfl rfl rfl rfl ?_
  refine ax_s (pc' := 16) (st' := [.int 4, .int (nI v)]) rfl rfl rfl rfl ?_
  refine ax_call (vs := [.int 4]) (rr := [.int (nI v)]) rfl rfl rfl ?_
  refine ax_in (ls := [some (.int 4)]) rfl ?_
  refine ax_s (pc' := 1) (st' := [.int 4]) rfl rfl rfl rfl ?_
  refine ax_s (pc' := 35) (ls' := [some (.int 4)]) (st' := []) (h1 := (am_hh X (am_ovl S 29 W1) L)) rfl rfl rfl rfl ?_
  refine ax_s (pc' := 37) (st' := [.int 99]) rfl rfl rfl rfl ?_
  refine ax_r rfl rfl rfl ?_
  show am_ex (d + 8) 115 19 [some (.ref 280), some (.int (nI j)), some (.int 4), some (.ref (8 + 1 * r)), some (.int (nI f)), some (.int (nI N)), some (.int x), some (.int y), some (.int z), some (.int (nI v))] [.int 99, .int (nI v)] (am_hh X (am_ovl S 29 W1) L) _
  refine ax_cmp_gt rfl (fun c1 => ?_) (fun c1 => ?_)
  · refine ax_s (pc' := 88) (st' := [.int 4]) rfl rfl rfl rfl ?_
    refine ax_s (pc' := 89) (st' := [.int 3, .int 4]) rfl rfl rfl rfl ?_
    refine ax_cmp_ge rfl (fun c2 => ?_) (fun c2 => False.elim (by revert c2; decide))
    refine ax_s (pc' := 96) (st' := [.int 4]) rfl rfl rfl rfl ?_
    refine ax_s (pc' := 97) (st' := [.int 3, .int 4]) rfl rfl rfl rfl ?_
    refine ax_cmp_ne rfl (fun c3 => ?_) (fun c3 => False.elim (by revert c3; decide))
    refine ax_s (pc' := 107) (st' := [.int z]) rfl rfl rfl rfl ?_
    refine ax_r rfl rfl rfl ?_
    exact k1 c1
  · refine ax_s (pc' := 23) (st' := [.ref 280]) rfl rfl rfl rfl ?_
    refine ax_get rfl (hh_280 _ _ _) rfl rfl rfl ?_
    show am_ex (d + 8) 115 26 [some (.ref 280), some (.int (nI j)), some (.int 4), some (.ref (8 + 1 * r)), some (.int (nI f)), some (.int (nI N)), some (.int x), some (.int y), some (.int z), some (.int (nI v))] [.ref 29] (am_hh X (am_ovl S 29 W1) L) _
    refine ax_s (pc' := 27) (st' := [.ref 280, .ref 29]) rfl rfl rfl rfl ?_
    refine ax_get rfl (hh_280 _ _ _) rfl rfl rfl ?_
    show am_ex (d + 8) 115 30 [some (.ref 280), some (.int (nI j)), some (.int 4), some (.ref (8 + 1 * r)), some (.int (nI f)), some (.int (nI N)), some (.int x), some (.int y), some (.int z), some (.int (nI v))] [.ref 20, .ref 29] (am_hh X (am_ovl S 29 W1) L) _
    refine ax_call (vs := [.ref 29, .ref 20]) (rr := []) rfl rfl rfl ?_
    refine kt_takeFrom29' hc1 hc0 ?_
    show am_ex (d + 8) 115 33 [some (.ref 280), some (.int (nI j)), some (.int 4), some (.ref (8 + 1 * r)), some (.int (nI f)), some (.int (nI N)), some (.int x), some (.int y), some (.int z), some (.int (nI v))] [] (am_hh X (am_ovl S 29 (am_sub S 20)) L) _
    refine ax_s (pc' := 34) (st' := [.ref 280]) rfl rfl rfl rfl ?_
    refine ax_s (pc' := 35) (st' := [.int (nI j), .ref 280]) rfl rfl rfl rfl ?_
    refine ax_s (pc' := 36) (st' := [.int 4, .int (nI j), .ref 280]) rfl rfl rfl rfl ?_
    refine ax_s (pc' := 38) (st' := [.int (nI v), .int 4, .int (nI j), .ref 280]) rfl rfl rfl rfl ?_
    refine ax_call (vs := [.ref 280, .int (nI j), .int 4, .int (nI v)]) (rr := []) rfl rfl rfl ?_
    refine ax_in (ls := [some (.ref 280), some (.int (nI j)), some (.int 4), some (.int (nI v))]) rfl ?_
    refine ax_s (pc' := 1) (st' := [.int 4]) rfl rfl rfl rfl ?_
    refine ax_s (pc' := 67) (ls' := [some (.ref 280), some (.int (nI j)), some (.int 4), some (.int (nI v))]) (st' := []) (h1 := (am_hh X (am_ovl S 29 (am_sub S 20)) L)) rfl rfl rfl rfl ?_
    refine ax_s (pc' := 68) (st' := [.ref 280]) rfl rfl rfl rfl ?_
    refine ax_get rfl (hh_280 _ _ _) rfl rfl rfl ?_
    show am_ex (d + 7) 117 71 [some (.ref 280), some (.int (nI j)), some (.int 4), some (.int (nI v))] [.ref 29] (am_hh X (am_ovl S 29 (am_sub S 20)) L) _
    refine ax_s (pc' := 72) (st' := [.int (nI v), .ref 29]) rfl rfl rfl rfl ?_
    refine ax_put rfl (hh_29 _ _ _) rfl rfl (show 1 + 1 ≤ _ from Nat.le_of_ble_eq_true rfl) rfl (am_hh_setW _ _ _ _ 0 1 _ (by decide) rfl) ?_
    refine ax_r rfl rfl rfl ?_
    show am_ex (d + 8) 115 41 [some (.ref 280), some (.int (nI j)), some (.int 4), some (.ref (8 + 1 * r)), some (.int (nI f)), some (.int (nI N)), some (.int x), some (.int y), some (.int z), some (.int (nI v))] [] (am_hh X (am_ovl S 29 (am_u (am_sub S 20) 0 1 (nI v))) L) _
    refine ax_s (pc' := 42) (st' := [.ref 280]) rfl rfl rfl rfl ?_
    refine ax_s (pc' := 43) (st' := [.ref (8 + 1 * r), .ref 280]) rfl rfl rfl rfl ?_
    refine ax_s (pc' := 45) (st' := [.int (nI f), .ref (8 + 1 * r), .ref 280]) rfl rfl rfl rfl ?_
    refine ax_s (pc' := 47) (st' := [.int (nI N), .int (nI f), .ref (8 + 1 * r), .ref 280]) rfl rfl rfl rfl ?_
    refine ax_call (vs := [.ref 280, .ref (8 + 1 * r), .int (nI f), .int (nI N)]) (rr := []) rfl rfl rfl ?_
    refine kt_leansAs hr hfN ht (wF_u (c := 0) (i := 1) (v := nI v) hf (by omega)) (w_cl_u hc0 (show 1 < 5 by decide)) (fun W4 h4 => ?_)
    show am_ex (d + 8) 115 50 [some (.ref 280), some (.int (nI j)), some (.int 4), some (.ref (8 + 1 * r)), some (.int (nI f)), some (.int (nI N)), some (.int x), some (.int y), some (.int z), some (.int (nI v))] [.int (bI (w_ls g n t N 0 (am_u (am_sub S 20) 0 1 (nI v))))] (am_hh X (am_ovl S 29 W4) L) _
    refine ax_bF rfl (fun c5 => ?_) (fun c5 => ?_)
    · refine ax_s (pc' := 84) (ls' := [some (.ref 280), some (.int (nI j)), some (.int 4), some (.ref (8 + 1 * r)), some (.int (nI f)), some (.int (nI N)), some (.int x), some (.int y), some (.int z), some (.int ((nI v) + 1))]) (st' := []) rfl rfl rfl rfl ?_
      rw [nI_1]
      refine ax_s (pc' := 13) (st' := []) rfl rfl rfl rfl ?_
      exact k2 c1 W4 h4 c5
    · refine ax_s (pc' := 55) (st' := [.int x]) rfl rfl rfl rfl ?_
      refine ax_s (pc' := 56) (st' := [.int 1, .int x]) rfl rfl rfl rfl ?_
      refine ax_s (pc' := 58) (st' := [.int (nI v), .int 1, .int x]) rfl rfl rfl rfl ?_
      refine ax_s (pc' := 59) (st' := [.int (1 <<< ((nI v) &&& 31)), .int x]) rfl rfl rfl rfl ?_
      refine ax_s (pc' := 60) (st' := [.int (x ||| (1 <<< ((nI v) &&& 31)))]) rfl rfl rfl rfl ?_
      refine ax_s (pc' := 62) (ls' := [some (.ref 280), some (.int (nI j)), some (.int 4), some (.ref (8 + 1 * r)), some (.int (nI f)), some (.int (nI N)), some (.int (x ||| (1 <<< ((nI v) &&& 31)))), some (.int y), some (.int z), some (.int (nI v))]) (st' := []) rfl rfl rfl rfl ?_
      refine ax_s (pc' := 65) (ls' := [some (.ref 280), some (.int (nI j)), some (.int 4), some (.ref (8 + 1 * r)), some (.int (nI f)), some (.int (nI N)), some (.int (x ||| (1 <<< ((nI v) &&& 31)))), some (.int (y + 1)), some (.int z), some (.int (nI v))]) (st' := []) rfl rfl rfl rfl ?_
      refine ax_s (pc' := 67) (st' := [.int z]) rfl rfl rfl rfl ?_
      refine ax_s (pc' := 69) (st' := [.int (-1000000), .int z]) rfl rfl rfl rfl ?_
      refine ax_cmp_ne rfl (fun c6 => ?_) (fun c6 => ?_)
      · refine ax_s (pc' := 79) (st' := [.int z]) rfl rfl rfl rfl ?_
        refine ax_s (pc' := 81) (ls' := [some (.ref 280), some (.int (nI j)), some (.int 4), some (.ref (8 + 1 * r)), some (.int (nI f)), some (.int (nI N)), some (.int (x ||| (1 <<< ((nI v) &&& 31)))), some (.int (y + 1)), some (.int z), some (.int (nI v))]) (st' := []) rfl rfl rfl rfl ?_
        refine ax_s (pc' := 84) (ls' := [some (.ref 280), some (.int (nI j)), some (.int 4), some (.ref (8 + 1 * r)), some (.int (nI f)), some (.int (nI N)), some (.int (x ||| (1 <<< ((nI v) &&& 31)))), some (.int (y + 1)), some (.int z), some (.int ((nI v) + 1))]) (st' := []) rfl rfl rfl rfl ?_
        rw [nI_1]
        refine ax_s (pc' := 13) (st' := []) rfl rfl rfl rfl ?_
        exact k3 c1 W4 h4 c5 c6
      · refine ax_s (pc' := 74) (st' := [.int (nI v)]) rfl rfl rfl rfl ?_
        refine ax_s (pc' := 79) (st' := [.int (nI v)]) rfl rfl rfl rfl ?_
        refine ax_s (pc' := 81) (ls' := [some (.ref 280), some (.int (nI j)), some (.int 4), some (.ref (8 + 1 * r)), some (.int (nI f)), some (.int (nI N)), some (.int (x ||| (1 <<< ((nI v) &&& 31)))), some (.int (y + 1)), some (.int (nI v)), some (.int (nI v))]) (st' := []) rfl rfl rfl rfl ?_
        refine ax_s (pc' := 84) (ls' := [some (.ref 280), some (.int (nI j)), some (.int 4), some (.ref (8 + 1 * r)), some (.int (nI f)), some (.int (nI N)), some (.int (x ||| (1 <<< ((nI v) &&& 31)))), some (.int (y + 1)), some (.int (nI v)), some (.int ((nI v) + 1))]) (st' := []) rfl rfl rfl rfl ?_
        rw [nI_1]
        refine ax_s (pc' := 13) (st' := []) rfl rfl rfl rfl ?_
        exact k4 c1 W4 h4 c5 c6
theorem wp_guess {d : Nat} {X : Nat × (Nat → Int32)} {S : Nat → Nat → Int32} {L : Nat → Int64} {r f N j : Nat} {q : Int32} {Q : Option Value → am_H → Prop}  (k1 : am_ex (d + 8) 115 13 [some (.ref 280), some (.int (nI j)), some (.int q), some (.ref (8 + 1 * r)), some (.int (nI f)), some (.int (nI N)), some (.int 0), some (.int 0), some (.int (-1000000)), some (.int 1)] [] (am_hh X S L) Q) : am_mt (d + 8) 115 [.ref 280, .int (nI j), .int q, .ref (8 + 1 * r), .int (nI f), .int (nI N)] (am_hh X S L) Q := by
  refine ax_in (ls := [some (.ref 280), some (.int (nI j)), some (.int q), some (.ref (8 + 1 * r)), some (.int (nI f)), some (.int (nI N)), none, none, none, none]) rfl ?_
  refine ax_s (pc' := 1) (st' := [.int 0]) rfl rfl rfl rfl ?_
  refine ax_s (pc' := 3) (ls' := [some (.ref 280), some (.int (nI j)), some (.int q), some (.ref (8 + 1 * r)), some (.int (nI f)), some (.int (nI N)), some (.int 0), none, none, none]) (st' := []) rfl rfl rfl rfl ?_
  refine ax_s (pc' := 4) (st' := [.int 0]) rfl rfl rfl rfl ?_
  refine ax_s (pc' := 6) (ls' := [some (.ref 280), some (.int (nI j)), some (.int q), some (.ref (8 + 1 * r)), some (.int (nI f)), some (.int (nI N)), some (.int 0), some (.int 0), none, none]) (st' := []) rfl rfl rfl rfl ?_
  refine ax_s (pc' := 8) (st' := [.int (-1000000)]) rfl rfl rfl rfl ?_
  refine ax_s (pc' := 10) (ls' := [some (.ref 280), some (.int (nI j)), some (.int q), some (.ref (8 + 1 * r)), some (.int (nI f)), some (.int (nI N)), some (.int 0), some (.int 0), some (.int (-1000000)), none]) (st' := []) rfl rfl rfl rfl ?_
  refine ax_s (pc' := 11) (st' := [.int 1]) rfl rfl rfl rfl ?_
  refine ax_s (pc' := 13) (ls' := [some (.ref 280), some (.int (nI j)), some (.int q), some (.ref (8 + 1 * r)), some (.int (nI f)), some (.int (nI N)), some (.int 0), some (.int 0), some (.int (-1000000)), some (.int 1)]) (st' := []) rfl rfl rfl rfl ?_
  exact k1
theorem wl_byRow2 {d : Nat} {X : Nat × (Nat → Int32)} {S : Nat → Nat → Int32} {L : Nat → Int64} {g n r f N j v : Nat} {W S1 : Nat → Nat → Int32} {t : Nat → Int32} {p q x y : Int32} {Q : Option Value → am_H → Prop} (hR : mR W S 293 g n) (hK : JK S) (hr : r < 8) (hfN : f + N ≤ 40) (ht : ∀ i, i < N → S 288 (40 * r + f + i) = t i) (hb1 : FB 290 j S S1) (hp1 : p / 40 = nI r) (hp2 : p - p / 40 * 40 = nI f) (hj : j < 6)  (x1 : q < (nI v) → j < 6) (x2 : ¬ q < (nI v) → j < 6) (k1 : q < (nI v) → Q (some (.int y)) (am_hh X (am_u S1 290 j x) L)) (k2 : ¬ q < (nI v) → ∀ S2 : Nat → Nat → Int32, mR (am_u W 2 j (nI v)) S2 298 g n → F8 (am_u S1 290 j (nI v)) S2 → ∀ S3 : Nat → Nat → Int32, FB 290 j S S3 → (w_ls g n t N 0 (am_u W 2 j (nI v))) = false → am_ex (d + 9) 213 11 [some (.ref 285), some (.ref 290), some (.int (nI j)), some (.int q), some (.int p), some (.int (nI N)), some (.int x), some (.int (y ||| 0)), some (.int (nI (v + 1)))] [] (am_hh X S3 L) Q) (k3 : ¬ q < (nI v) → ∀ S2 : Nat → Nat → Int32, mR (am_u W 2 j (nI v)) S2 298 g n → F8 (am_u S1 290 j (nI v)) S2 → ∀ S3 : Nat → Nat → Int32, FB 290 j S S3 → (w_ls g n t N 0 (am_u W 2 j (nI v))) = true → am_ex (d + 9) 213 11 [some (.ref 285), some (.ref 290), some (.int (nI j)), some (.int q), some (.int p), some (.int (nI N)), some (.int x), some (.int (y ||| (1 <<< ((nI v) &&& 31)))), some (.int (nI (v + 1)))] [] (am_hh X S3 L) Q) : am_ex (d + 9) 213 11 [some (.ref 285), some (.ref 290), some (.int (nI j)), some (.int q), some (.int p), some (.int (nI N)), some (.int x), some (.int y), some (.int (nI v))] [] (am_hh X S1 L) Q := by
  refine ax_s (pc' := 13) (st' := [.int (nI v)]) rfl rfl rfl rfl ?_
  refine ax_s (pc' := 14) (st' := [.int q, .int (nI v)]) rfl rfl rfl rfl ?_
  refine ax_cmp_gt rfl (fun c1 => ?_) (fun c1 => ?_)
  · refine ax_s (pc' := 65) (st' := [.ref 290]) rfl rfl rfl rfl ?_
    refine ax_s (pc' := 66) (st' := [.int (nI j), .ref 290]) rfl rfl rfl rfl ?_
    refine ax_s (pc' := 68) (st' := [.int x, .int (nI j), .ref 290]) rfl rfl rfl rfl ?_
    refine ax_ast (j := j) rfl (hh_290 _ _ _) rfl rfl (x1 c1) (by decide) (am_hh_set _ _ _ 290 j _ rfl) ?_
    refine ax_s (pc' := 71) (st' := [.int y]) rfl rfl rfl rfl ?_
    refine ax_r rfl rfl rfl ?_
    exact k1 c1
  · refine ax_s (pc' := 18) (st' := [.ref 290]) rfl rfl rfl rfl ?_
    refine ax_s (pc' := 19) (st' := [.int (nI j), .ref 290]) rfl rfl rfl rfl ?_
    refine ax_s (pc' := 21) (st' := [.int (nI v), .int (nI j), .ref 290]) rfl rfl rfl rfl ?_
    refine ax_ast (j := j) rfl (hh_290 _ _ _) rfl rfl (x2 c1) (by decide) (am_hh_set _ _ _ 290 j _ rfl) ?_
    refine ax_s (pc' := 23) (st' := [.ref 285]) rfl rfl rfl rfl ?_
    refine ax_call (vs := [.ref 285]) (rr := []) rfl rfl rfl ?_
    refine mt_asItIs' (mR_b2 hR hb1) (fun S2 hm2 hf2 => ?_)
    show am_ex (d + 9) 213 26 [some (.ref 285), some (.ref 290), some (.int (nI j)), some (.int q), some (.int p), some (.int (nI N)), some (.int x), some (.int y), some (.int (nI v))] [] (am_hh X S2 L) _
    refine ax_s (pc' := 28) (st' := [.int y]) rfl rfl rfl rfl ?_
    refine ax_s (pc' := 29) (st' := [.ref 285, .int y]) rfl rfl rfl rfl ?_
    refine ax_s (pc' := 31) (st' := [.int p, .ref 285, .int y]) rfl rfl rfl rfl ?_
    refine ax_s (pc' := 33) (st' := [.int 40, .int p, .ref 285, .int y]) rfl rfl rfl rfl ?_
    refine ax_idiv rfl (by decide) ?_
    refine ax_s (pc' := 36) (st' := [.int p, .int (p / 40), .ref 285, .int y]) rfl rfl rfl rfl ?_
    refine ax_s (pc' := 38) (st' := [.int 40, .int p, .int (p / 40), .ref 285, .int y]) rfl rfl rfl rfl ?_
    refine ax_irem rfl (by decide) ?_
    refine ax_s (pc' := 41) (st' := [.int (nI N), .int (p - p / 40 * 40), .int (p / 40), .ref 285, .int y]) rfl rfl rfl rfl ?_
    refine ax_call (vs := [.ref 285, .int (p / 40), .int (p - p / 40 * 40), .int (nI N)]) (rr := [.int y]) rfl rfl rfl ?_
    refine mt_isSo (c := 290) (j := j) (by decide) hK hr hfN ht (FB_8 (FB_u hb1) hf2) hm2 hp1 hp2 (fun S3 b3 => ?_)
    show am_ex (d + 9) 213 44 [some (.ref 285), some (.ref 290), some (.int (nI j)), some (.int q), some (.int p), some (.int (nI N)), some (.int x), some (.int y), some (.int (nI v))] [.int (bI (w_ls g n t N 0 (am_u W 2 j (nI v)))), .int y] (am_hh X S3 L) _
    refine ax_bF rfl (fun c4 => ?_) (fun c4 => ?_)
    · refine ax_s (pc' := 55) (st' := [.int 0, .int y]) rfl rfl rfl rfl ?_
      refine ax_s (pc' := 56) (st' := [.int (y ||| 0)]) rfl rfl rfl rfl ?_
      refine ax_s (pc' := 58) (ls' := [some (.ref 285), some (.ref 290), some (.int (nI j)), some (.int q), some (.int p), some (.int (nI N)), some (.int x), some (.int (y ||| 0)), some (.int (nI v))]) (st' := []) rfl rfl rfl rfl ?_
      refine ax_s (pc' := 61) (ls' := [some (.ref 285), some (.ref 290), some (.int (nI j)), some (.int q), some (.int p), some (.int (nI N)), some (.int x), some (.int (y ||| 0)), some (.int ((nI v) + 1))]) (st' := []) rfl rfl rfl rfl ?_
      rw [nI_1]
      refine ax_s (pc' := 11) (st' := []) rfl rfl rfl rfl ?_
      exact k2 c1 S2 hm2 hf2 S3 b3 c4
    · refine ax_s (pc' := 48) (st' := [.int 1, .int y]) rfl rfl rfl rfl ?_
      refine ax_s (pc' := 50) (st' := [.int (nI v), .int 1, .int y]) rfl rfl rfl rfl ?_
      refine ax_s (pc' := 51) (st' := [.int (1 <<< ((nI v) &&& 31)), .int y]) rfl rfl rfl rfl ?_
      refine ax_s (pc' := 55) (st' := [.int (1 <<< ((nI v) &&& 31)), .int y]) rfl rfl rfl rfl ?_
      refine ax_s (pc' := 56) (st' := [.int (y ||| (1 <<< ((nI v) &&& 31)))]) rfl rfl rfl rfl ?_
      refine ax_s (pc' := 58) (ls' := [some (.ref 285), some (.ref 290), some (.int (nI j)), some (.int q), some (.int p), some (.int (nI N)), some (.int x), some (.int (y ||| (1 <<< ((nI v) &&& 31)))), some (.int (nI v))]) (st' := []) rfl rfl rfl rfl ?_
      refine ax_s (pc' := 61) (ls' := [some (.ref 285), some (.ref 290), some (.int (nI j)), some (.int q), some (.int p), some (.int (nI N)), some (.int x), some (.int (y ||| (1 <<< ((nI v) &&& 31)))), some (.int ((nI v) + 1))]) (st' := []) rfl rfl rfl rfl ?_
      rw [nI_1]
      refine ax_s (pc' := 11) (st' := []) rfl rfl rfl rfl ?_
      exact k3 c1 S2 hm2 hf2 S3 b3 c4
theorem wp_byRow2 {d : Nat} {X : Nat × (Nat → Int32)} {S : Nat → Nat → Int32} {L : Nat → Int64} {j N : Nat} {p q : Int32} {Q : Option Value → am_H → Prop}  (x1 : j < 6) (k1 : am_ex (d + 9) 213 11 [some (.ref 285), some (.ref 290), some (.int (nI j)), some (.int q), some (.int p), some (.int (nI N)), some (.int (S 290 j)), some (.int 0), some (.int 1)] [] (am_hh X S L) Q) : am_mt (d + 9) 213 [.ref 285, .ref 290, .int (nI j), .int q, .int p, .int (nI N)] (am_hh X S L) Q := by
  refine ax_in (ls := [some (.ref 285), some (.ref 290), some (.int (nI j)), some (.int q), some (.int p), some (.int (nI N)), none, none, none]) rfl ?_
  refine ax_s (pc' := 1) (st' := [.ref 290]) rfl rfl rfl rfl ?_
  refine ax_s (pc' := 2) (st' := [.int (nI j), .ref 290]) rfl rfl rfl rfl ?_
  refine ax_ald (j := j) (v := (S 290 j)) rfl (hh_290 _ _ _) rfl rfl x1 (by decide) rfl ?_
  refine ax_s (pc' := 5) (ls' := [some (.ref 285), some (.ref 290), some (.int (nI j)), some (.int q), some (.int p), some (.int (nI N)), some (.int (S 290 j)), none, none]) (st' := []) rfl rfl rfl rfl ?_
  refine ax_s (pc' := 6) (st' := [.int 0]) rfl rfl rfl rfl ?_
  refine ax_s (pc' := 8) (ls' := [some (.ref 285), some (.ref 290), some (.int (nI j)), some (.int q), some (.int p), some (.int (nI N)), some (.int (S 290 j)), some (.int 0), none]) (st' := []) rfl rfl rfl rfl ?_
  refine ax_s (pc' := 9) (st' := [.int 1]) rfl rfl rfl rfl ?_
  refine ax_s (pc' := 11) (ls' := [some (.ref 285), some (.ref 290), some (.int (nI j)), some (.int q), some (.int p), some (.int (nI N)), some (.int (S 290 j)), some (.int 0), some (.int 1)]) (st' := []) rfl rfl rfl rfl ?_
  exact k1
theorem wl_byRow3 {d : Nat} {X : Nat × (Nat → Int32)} {S : Nat → Nat → Int32} {L : Nat → Int64} {g n r f N j v : Nat} {W S1 : Nat → Nat → Int32} {t : Nat → Int32} {p q x y : Int32} {Q : Option Value → am_H → Prop} (hR : mR W S 293 g n) (hK : JK S) (hr : r < 8) (hfN : f + N ≤ 40) (ht : ∀ i, i < N → S 288 (40 * r + f + i) = t i) (hb1 : FB 291 j S S1) (hp1 : p / 40 = nI r) (hp2 : p - p / 40 * 40 = nI f) (hj : j < 6)  (x1 : q < (nI v) → j < 6) (x2 : ¬ q < (nI v) → j < 6) (k1 : q < (nI v) → Q (some (.int y)) (am_hh X (am_u S1 291 j x) L)) (k2 : ¬ q < (nI v) → ∀ S2 : Nat → Nat → Int32, mR (am_u W 3 j (nI v)) S2 298 g n → F8 (am_u S1 291 j (nI v)) S2 → ∀ S3 : Nat → Nat → Int32, FB 291 j S S3 → (w_ls g n t N 0 (am_u W 3 j (nI v))) = false → am_ex (d + 9) 213 11 [some (.ref 285), some (.ref 291), some (.int (nI j)), some (.int q), some (.int p), some (.int (nI N)), some (.int x), some (.int (y ||| 0)), some (.int (nI (v + 1)))] [] (am_hh X S3 L) Q) (k3 : ¬ q < (nI v) → ∀ S2 : Nat → Nat → Int32, mR (am_u W 3 j (nI v)) S2 298 g n → F8 (am_u S1 291 j (nI v)) S2 → ∀ S3 : Nat → Nat → Int32, FB 291 j S S3 → (w_ls g n t N 0 (am_u W 3 j (nI v))) = true → am_ex (d + 9) 213 11 [some (.ref 285), some (.ref 291), some (.int (nI j)), some (.int q), some (.int p), some (.int (nI N)), some (.int x), some (.int (y ||| (1 <<< ((nI v) &&& 31)))), some (.int (nI (v + 1)))] [] (am_hh X S3 L) Q) : am_ex (d + 9) 213 11 [some (.ref 285), some (.ref 291), some (.int (nI j)), some (.int q), some (.int p), some (.int (nI N)), some (.int x), some (.int y), some (.int (nI v))] [] (am_hh X S1 L) Q := by
  refine ax_s (pc' := 13) (st' := [.int (nI v)]) rfl rfl rfl rfl ?_
  refine ax_s (pc' := 14) (st' := [.int q, .int (nI v)]) rfl rfl rfl rfl ?_
  refine ax_cmp_gt rfl (fun c1 => ?_) (fun c1 => ?_)
  · refine ax_s (pc' := 65) (st' := [.ref 291]) rfl rfl rfl rfl ?_
    refine ax_s (pc' := 66) (st' := [.int (nI j), .ref 291]) rfl rfl rfl rfl ?_
    refine ax_s (pc' := 68) (st' := [.int x, .int (nI j), .ref 291]) rfl rfl rfl rfl ?_
    refine ax_ast (j := j) rfl (hh_291 _ _ _) rfl rfl (x1 c1) (by decide) (am_hh_set _ _ _ 291 j _ rfl) ?_
    refine ax_s (pc' := 71) (st' := [.int y]) rfl rfl rfl rfl ?_
    refine ax_r rfl rfl rfl ?_
    exact k1 c1
  · refine ax_s (pc' := 18) (st' := [.ref 291]) rfl rfl rfl rfl ?_
    refine ax_s (pc' := 19) (st' := [.int (nI j), .ref 291]) rfl rfl rfl rfl ?_
    refine ax_s (pc' := 21) (st' := [.int (nI v), .int (nI j), .ref 291]) rfl rfl rfl rfl ?_
    refine ax_ast (j := j) rfl (hh_291 _ _ _) rfl rfl (x2 c1) (by decide) (am_hh_set _ _ _ 291 j _ rfl) ?_
    refine ax_s (pc' := 23) (st' := [.ref 285]) rfl rfl rfl rfl ?_
    refine ax_call (vs := [.ref 285]) (rr := []) rfl rfl rfl ?_
    refine mt_asItIs' (mR_b3 hR hb1) (fun S2 hm2 hf2 => ?_)
    show am_ex (d + 9) 213 26 [some (.ref 285), some (.ref 291), some (.int (nI j)), some (.int q), some (.int p), some (.int (nI N)), some (.int x), some (.int y), some (.int (nI v))] [] (am_hh X S2 L) _
    refine ax_s (pc' := 28) (st' := [.int y]) rfl rfl rfl rfl ?_
    refine ax_s (pc' := 29) (st' := [.ref 285, .int y]) rfl rfl rfl rfl ?_
    refine ax_s (pc' := 31) (st' := [.int p, .ref 285, .int y]) rfl rfl rfl rfl ?_
    refine ax_s (pc' := 33) (st' := [.int 40, .int p, .ref 285, .int y]) rfl rfl rfl rfl ?_
    refine ax_idiv rfl (by decide) ?_
    refine ax_s (pc' := 36) (st' := [.int p, .int (p / 40), .ref 285, .int y]) rfl rfl rfl rfl ?_
    refine ax_s (pc' := 38) (st' := [.int 40, .int p, .int (p / 40), .ref 285, .int y]) rfl rfl rfl rfl ?_
    refine ax_irem rfl (by decide) ?_
    refine ax_s (pc' := 41) (st' := [.int (nI N), .int (p - p / 40 * 40), .int (p / 40), .ref 285, .int y]) rfl rfl rfl rfl ?_
    refine ax_call (vs := [.ref 285, .int (p / 40), .int (p - p / 40 * 40), .int (nI N)]) (rr := [.int y]) rfl rfl rfl ?_
    refine mt_isSo (c := 291) (j := j) (by decide) hK hr hfN ht (FB_8 (FB_u hb1) hf2) hm2 hp1 hp2 (fun S3 b3 => ?_)
    show am_ex (d + 9) 213 44 [some (.ref 285), some (.ref 291), some (.int (nI j)), some (.int q), some (.int p), some (.int (nI N)), some (.int x), some (.int y), some (.int (nI v))] [.int (bI (w_ls g n t N 0 (am_u W 3 j (nI v)))), .int y] (am_hh X S3 L) _
    refine ax_bF rfl (fun c4 => ?_) (fun c4 => ?_)
    · refine ax_s (pc' := 55) (st' := [.int 0, .int y]) rfl rfl rfl rfl ?_
      refine ax_s (pc' := 56) (st' := [.int (y ||| 0)]) rfl rfl rfl rfl ?_
      refine ax_s (pc' := 58) (ls' := [some (.ref 285), some (.ref 291), some (.int (nI j)), some (.int q), some (.int p), some (.int (nI N)), some (.int x), some (.int (y ||| 0)), some (.int (nI v))]) (st' := []) rfl rfl rfl rfl ?_
      refine ax_s (pc' := 61) (ls' := [some (.ref 285), some (.ref 291), some (.int (nI j)), some (.int q), some (.int p), some (.int (nI N)), some (.int x), some (.int (y ||| 0)), some (.int ((nI v) + 1))]) (st' := []) rfl rfl rfl rfl ?_
      rw [nI_1]
      refine ax_s (pc' := 11) (st' := []) rfl rfl rfl rfl ?_
      exact k2 c1 S2 hm2 hf2 S3 b3 c4
    · refine ax_s (pc' := 48) (st' := [.int 1, .int y]) rfl rfl rfl rfl ?_
      refine ax_s (pc' := 50) (st' := [.int (nI v), .int 1, .int y]) rfl rfl rfl rfl ?_
      refine ax_s (pc' := 51) (st' := [.int (1 <<< ((nI v) &&& 31)), .int y]) rfl rfl rfl rfl ?_
      refine ax_s (pc' := 55) (st' := [.int (1 <<< ((nI v) &&& 31)), .int y]) rfl rfl rfl rfl ?_
      refine ax_s (pc' := 56) (st' := [.int (y ||| (1 <<< ((nI v) &&& 31)))]) rfl rfl rfl rfl ?_
      refine ax_s (pc' := 58) (ls' := [some (.ref 285), some (.ref 291), some (.int (nI j)), some (.int q), some (.int p), some (.int (nI N)), some (.int x), some (.int (y ||| (1 <<< ((nI v) &&& 31)))), some (.int (nI v))]) (st' := []) rfl rfl rfl rfl ?_
      refine ax_s (pc' := 61) (ls' := [some (.ref 285), some (.ref 291), some (.int (nI j)), some (.int q), some (.int p), some (.int (nI N)), some (.int x), some (.int (y ||| (1 <<< ((nI v) &&& 31)))), some (.int ((nI v) + 1))]) (st' := []) rfl rfl rfl rfl ?_
      rw [nI_1]
      refine ax_s (pc' := 11) (st' := []) rfl rfl rfl rfl ?_
      exact k3 c1 S2 hm2 hf2 S3 b3 c4
theorem wp_byRow3 {d : Nat} {X : Nat × (Nat → Int32)} {S : Nat → Nat → Int32} {L : Nat → Int64} {j N : Nat} {p q : Int32} {Q : Option Value → am_H → Prop}  (x1 : j < 6) (k1 : am_ex (d + 9) 213 11 [some (.ref 285), some (.ref 291), some (.int (nI j)), some (.int q), some (.int p), some (.int (nI N)), some (.int (S 291 j)), some (.int 0), some (.int 1)] [] (am_hh X S L) Q) : am_mt (d + 9) 213 [.ref 285, .ref 291, .int (nI j), .int q, .int p, .int (nI N)] (am_hh X S L) Q := by
  refine ax_in (ls := [some (.ref 285), some (.ref 291), some (.int (nI j)), some (.int q), some (.int p), some (.int (nI N)), none, none, none]) rfl ?_
  refine ax_s (pc' := 1) (st' := [.ref 291]) rfl rfl rfl rfl ?_
  refine ax_s (pc' := 2) (st' := [.int (nI j), .ref 291]) rfl rfl rfl rfl ?_
  refine ax_ald (j := j) (v := (S 291 j)) rfl (hh_291 _ _ _) rfl rfl x1 (by decide) rfl ?_
  refine ax_s (pc' := 5) (ls' := [some (.ref 285), some (.ref 291), some (.int (nI j)), some (.int q), some (.int p), some (.int (nI N)), some (.int (S 291 j)), none, none]) (st' := []) rfl rfl rfl rfl ?_
  refine ax_s (pc' := 6) (st' := [.int 0]) rfl rfl rfl rfl ?_
  refine ax_s (pc' := 8) (ls' := [some (.ref 285), some (.ref 291), some (.int (nI j)), some (.int q), some (.int p), some (.int (nI N)), some (.int (S 291 j)), some (.int 0), none]) (st' := []) rfl rfl rfl rfl ?_
  refine ax_s (pc' := 9) (st' := [.int 1]) rfl rfl rfl rfl ?_
  refine ax_s (pc' := 11) (ls' := [some (.ref 285), some (.ref 291), some (.int (nI j)), some (.int q), some (.int p), some (.int (nI N)), some (.int (S 291 j)), some (.int 0), some (.int 1)]) (st' := []) rfl rfl rfl rfl ?_
  exact k1
theorem wl_byRow4 {d : Nat} {X : Nat × (Nat → Int32)} {S : Nat → Nat → Int32} {L : Nat → Int64} {g n r f N j v : Nat} {W S1 : Nat → Nat → Int32} {t : Nat → Int32} {p q x y : Int32} {Q : Option Value → am_H → Prop} (hR : mR W S 293 g n) (hK : JK S) (hr : r < 8) (hfN : f + N ≤ 40) (ht : ∀ i, i < N → S 288 (40 * r + f + i) = t i) (hb1 : FB 292 j S S1) (hp1 : p / 40 = nI r) (hp2 : p - p / 40 * 40 = nI f) (hj : j < 6)  (x1 : q < (nI v) → j < 6) (x2 : ¬ q < (nI v) → j < 6) (k1 : q < (nI v) → Q (some (.int y)) (am_hh X (am_u S1 292 j x) L)) (k2 : ¬ q < (nI v) → ∀ S2 : Nat → Nat → Int32, mR (am_u W 4 j (nI v)) S2 298 g n → F8 (am_u S1 292 j (nI v)) S2 → ∀ S3 : Nat → Nat → Int32, FB 292 j S S3 → (w_ls g n t N 0 (am_u W 4 j (nI v))) = false → am_ex (d + 9) 213 11 [some (.ref 285), some (.ref 292), some (.int (nI j)), some (.int q), some (.int p), some (.int (nI N)), some (.int x), some (.int (y ||| 0)), some (.int (nI (v + 1)))] [] (am_hh X S3 L) Q) (k3 : ¬ q < (nI v) → ∀ S2 : Nat → Nat → Int32, mR (am_u W 4 j (nI v)) S2 298 g n → F8 (am_u S1 292 j (nI v)) S2 → ∀ S3 : Nat → Nat → Int32, FB 292 j S S3 → (w_ls g n t N 0 (am_u W 4 j (nI v))) = true → am_ex (d + 9) 213 11 [some (.ref 285), some (.ref 292), some (.int (nI j)), some (.int q), some (.int p), some (.int (nI N)), some (.int x), some (.int (y ||| (1 <<< ((nI v) &&& 31)))), some (.int (nI (v + 1)))] [] (am_hh X S3 L) Q) : am_ex (d + 9) 213 11 [some (.ref 285), some (.ref 292), some (.int (nI j)), some (.int q), some (.int p), some (.int (nI N)), some (.int x), some (.int y), some (.int (nI v))] [] (am_hh X S1 L) Q := by
  refine ax_s (pc' := 13) (st' := [.int (nI v)]) rfl rfl rfl rfl ?_
  refine ax_s (pc' := 14) (st' := [.int q, .int (nI v)]) rfl rfl rfl rfl ?_
  refine ax_cmp_gt rfl (fun c1 => ?_) (fun c1 => ?_)
  · refine ax_s (pc' := 65) (st' := [.ref 292]) rfl rfl rfl rfl ?_
    refine ax_s (pc' := 66) (st' := [.int (nI j), .ref 292]) rfl rfl rfl rfl ?_
    refine ax_s (pc' := 68) (st' := [.int x, .int (nI j), .ref 292]) rfl rfl rfl rfl ?_
    refine ax_ast (j := j) rfl (hh_292 _ _ _) rfl rfl (x1 c1) (by decide) (am_hh_set _ _ _ 292 j _ rfl) ?_
    refine ax_s (pc' := 71) (st' := [.int y]) rfl rfl rfl rfl ?_
    refine ax_r rfl rfl rfl ?_
    exact k1 c1
  · refine ax_s (pc' := 18) (st' := [.ref 292]) rfl rfl rfl rfl ?_
    refine ax_s (pc' := 19) (st' := [.int (nI j), .ref 292]) rfl rfl rfl rfl ?_
    refine ax_s (pc' := 21) (st' := [.int (nI v), .int (nI j), .ref 292]) rfl rfl rfl rfl ?_
    refine ax_ast (j := j) rfl (hh_292 _ _ _) rfl rfl (x2 c1) (by decide) (am_hh_set _ _ _ 292 j _ rfl) ?_
    refine ax_s (pc' := 23) (st' := [.ref 285]) rfl rfl rfl rfl ?_
    refine ax_call (vs := [.ref 285]) (rr := []) rfl rfl rfl ?_
    refine mt_asItIs' (mR_b4 hR hb1) (fun S2 hm2 hf2 => ?_)
    show am_ex (d + 9) 213 26 [some (.ref 285), some (.ref 292), some (.int (nI j)), some (.int q), some (.int p), some (.int (nI N)), some (.int x), some (.int y), some (.int (nI v))] [] (am_hh X S2 L) _
    refine ax_s (pc' := 28) (st' := [.int y]) rfl rfl rfl rfl ?_
    refine ax_s (pc' := 29) (st' := [.ref 285, .int y]) rfl rfl rfl rfl ?_
    refine ax_s (pc' := 31) (st' := [.int p, .ref 285, .int y]) rfl rfl rfl rfl ?_
    refine ax_s (pc' := 33) (st' := [.int 40, .int p, .ref 285, .int y]) rfl rfl rfl rfl ?_
    refine ax_idiv rfl (by decide) ?_
    refine ax_s (pc' := 36) (st' := [.int p, .int (p / 40), .ref 285, .int y]) rfl rfl rfl rfl ?_
    refine ax_s (pc' := 38) (st' := [.int 40, .int p, .int (p / 40), .ref 285, .int y]) rfl rfl rfl rfl ?_
    refine ax_irem rfl (by decide) ?_
    refine ax_s (pc' := 41) (st' := [.int (nI N), .int (p - p / 40 * 40), .int (p / 40), .ref 285, .int y]) rfl rfl rfl rfl ?_
    refine ax_call (vs := [.ref 285, .int (p / 40), .int (p - p / 40 * 40), .int (nI N)]) (rr := [.int y]) rfl rfl rfl ?_
    refine mt_isSo (c := 292) (j := j) (by decide) hK hr hfN ht (FB_8 (FB_u hb1) hf2) hm2 hp1 hp2 (fun S3 b3 => ?_)
    show am_ex (d + 9) 213 44 [some (.ref 285), some (.ref 292), some (.int (nI j)), some (.int q), some (.int p), some (.int (nI N)), some (.int x), some (.int y), some (.int (nI v))] [.int (bI (w_ls g n t N 0 (am_u W 4 j (nI v)))), .int y] (am_hh X S3 L) _
    refine ax_bF rfl (fun c4 => ?_) (fun c4 => ?_)
    · refine ax_s (pc' := 55) (st' := [.int 0, .int y]) rfl rfl rfl rfl ?_
      refine ax_s (pc' := 56) (st' := [.int (y ||| 0)]) rfl rfl rfl rfl ?_
      refine ax_s (pc' := 58) (ls' := [some (.ref 285), some (.ref 292), some (.int (nI j)), some (.int q), some (.int p), some (.int (nI N)), some (.int x), some (.int (y ||| 0)), some (.int (nI v))]) (st' := []) rfl rfl rfl rfl ?_
      refine ax_s (pc' := 61) (ls' := [some (.ref 285), some (.ref 292), some (.int (nI j)), some (.int q), some (.int p), some (.int (nI N)), some (.int x), some (.int (y ||| 0)), some (.int ((nI v) + 1))]) (st' := []) rfl rfl rfl rfl ?_
      rw [nI_1]
      refine ax_s (pc' := 11) (st' := []) rfl rfl rfl rfl ?_
      exact k2 c1 S2 hm2 hf2 S3 b3 c4
    · refine ax_s (pc' := 48) (st' := [.int 1, .int y]) rfl rfl rfl rfl ?_
      refine ax_s (pc' := 50) (st' := [.int (nI v), .int 1, .int y]) rfl rfl rfl rfl ?_
      refine ax_s (pc' := 51) (st' := [.int (1 <<< ((nI v) &&& 31)), .int y]) rfl rfl rfl rfl ?_
      refine ax_s (pc' := 55) (st' := [.int (1 <<< ((nI v) &&& 31)), .int y]) rfl rfl rfl rfl ?_
      refine ax_s (pc' := 56) (st' := [.int (y ||| (1 <<< ((nI v) &&& 31)))]) rfl rfl rfl rfl ?_
      refine ax_s (pc' := 58) (ls' := [some (.ref 285), some (.ref 292), some (.int (nI j)), some (.int q), some (.int p), some (.int (nI N)), some (.int x), some (.int (y ||| (1 <<< ((nI v) &&& 31)))), some (.int (nI v))]) (st' := []) rfl rfl rfl rfl ?_
      refine ax_s (pc' := 61) (ls' := [some (.ref 285), some (.ref 292), some (.int (nI j)), some (.int q), some (.int p), some (.int (nI N)), some (.int x), some (.int (y ||| (1 <<< ((nI v) &&& 31)))), some (.int ((nI v) + 1))]) (st' := []) rfl rfl rfl rfl ?_
      rw [nI_1]
      refine ax_s (pc' := 11) (st' := []) rfl rfl rfl rfl ?_
      exact k3 c1 S2 hm2 hf2 S3 b3 c4
theorem wp_byRow4 {d : Nat} {X : Nat × (Nat → Int32)} {S : Nat → Nat → Int32} {L : Nat → Int64} {j N : Nat} {p q : Int32} {Q : Option Value → am_H → Prop}  (x1 : j < 6) (k1 : am_ex (d + 9) 213 11 [some (.ref 285), some (.ref 292), some (.int (nI j)), some (.int q), some (.int p), some (.int (nI N)), some (.int (S 292 j)), some (.int 0), some (.int 1)] [] (am_hh X S L) Q) : am_mt (d + 9) 213 [.ref 285, .ref 292, .int (nI j), .int q, .int p, .int (nI N)] (am_hh X S L) Q := by
  refine ax_in (ls := [some (.ref 285), some (.ref 292), some (.int (nI j)), some (.int q), some (.int p), some (.int (nI N)), none, none, none]) rfl ?_
  refine ax_s (pc' := 1) (st' := [.ref 292]) rfl rfl rfl rfl ?_
  refine ax_s (pc' := 2) (st' := [.int (nI j), .ref 292]) rfl rfl rfl rfl ?_
  refine ax_ald (j := j) (v := (S 292 j)) rfl (hh_292 _ _ _) rfl rfl x1 (by decide) rfl ?_
  refine ax_s (pc' := 5) (ls' := [some (.ref 285), some (.ref 292), some (.int (nI j)), some (.int q), some (.int p), some (.int (nI N)), some (.int (S 292 j)), none, none]) (st' := []) rfl rfl rfl rfl ?_
  refine ax_s (pc' := 6) (st' := [.int 0]) rfl rfl rfl rfl ?_
  refine ax_s (pc' := 8) (ls' := [some (.ref 285), some (.ref 292), some (.int (nI j)), some (.int q), some (.int p), some (.int (nI N)), some (.int (S 292 j)), some (.int 0), none]) (st' := []) rfl rfl rfl rfl ?_
  refine ax_s (pc' := 9) (st' := [.int 1]) rfl rfl rfl rfl ?_
  refine ax_s (pc' := 11) (ls' := [some (.ref 285), some (.ref 292), some (.int (nI j)), some (.int q), some (.int p), some (.int (nI N)), some (.int (S 292 j)), some (.int 0), some (.int 1)]) (st' := []) rfl rfl rfl rfl ?_
  exact k1
theorem wl_limitsBy {d : Nat} {X : Nat × (Nat → Int32)} {S : Nat → Nat → Int32} {L : Nat → Int64} {g n r f N j v : Nat} {W S1 : Nat → Nat → Int32} {t : Nat → Int32} {q x y : Int32} {Q : Option Value → am_H → Prop} (hR : mR W S 293 g n) (hK : JK S) (hr : r < 8) (hfN : f + N ≤ 40) (ht : ∀ i, i < N → S 288 (40 * r + f + i) = t i) (hb8 : F8 S S1)  (k1 : (nI v) ≤ 0 → ¬ q = 3 → Q (some (.int y)) (am_hh X S1 L)) (k2 : (nI v) ≤ 0 → q = 3 → Q (some (.int x)) (am_hh X S1 L)) (k3 : ¬ (nI v) ≤ 0 → ∀ S3 : Nat → Nat → Int32, mR W S3 298 g n → F8 S1 S3 → ∀ S4 : Nat → Nat → Int32, FB 298 0 S S4 → (w_ls g n t N 0 (am_u W 0 1 (nI v))) = false → am_ex (d + 9) 215 11 [some (.ref 285), some (.int q), some (.int (nI r)), some (.int (nI f)), some (.int (nI N)), some (.int x), some (.int y), some (.int ((nI v) + (-1)))] [] (am_hh X S4 L) Q) (k4 : ¬ (nI v) ≤ 0 → ∀ S3 : Nat → Nat → Int32, mR W S3 298 g n → F8 S1 S3 → ∀ S4 : Nat → Nat → Int32, FB 298 0 S S4 → (w_ls g n t N 0 (am_u W 0 1 (nI v))) = true → am_ex (d + 9) 215 11 [some (.ref 285), some (.int q), some (.int (nI r)), some (.int (nI f)), some (.int (nI N)), some (.int (x + 1)), some (.int (nI v)), some (.int ((nI v) + (-1)))] [] (am_hh X S4 L) Q) : am_ex (d + 9) 215 11 [some (.ref 285), some (.int q), some (.int (nI r)), some (.int (nI f)), some (.int (nI N)), some (.int x), some (.int y), some (.int (nI v))] [] (am_hh X S1 L) Q := by
  refine ax_s (pc' := 13) (st' := [.int (nI v)]) rfl rfl rfl rfl ?_
  refine ax_if_le rfl (fun c1 => ?_) (fun c1 => ?_)
  · refine ax_s (pc' := 53) (st' := [.int q]) rfl rfl rfl rfl ?_
    refine ax_s (pc' := 54) (st' := [.int 3, .int q]) rfl rfl rfl rfl ?_
    refine ax_cmp_ne rfl (fun c2 => ?_) (fun c2 => ?_)
    · refine ax_s (pc' := 64) (st' := [.int y]) rfl rfl rfl rfl ?_
      refine ax_r rfl rfl rfl ?_
      exact k1 c1 c2
    · refine ax_s (pc' := 59) (st' := [.int x]) rfl rfl rfl rfl ?_
      refine ax_s (pc' := 64) (st' := [.int x]) rfl rfl rfl rfl ?_
      refine ax_r rfl rfl rfl ?_
      exact k2 c1 c2
  · refine ax_s (pc' := 17) (st' := [.ref 285]) rfl rfl rfl rfl ?_
    refine ax_call (vs := [.ref 285]) (rr := []) rfl rfl rfl ?_
    refine mt_asItIs' (F8_m hb8 hR) (fun S3 hm3 hf3 => ?_)
    show am_ex (d + 9) 215 20 [some (.ref 285), some (.int q), some (.int (nI r)), some (.int (nI f)), some (.int (nI N)), some (.int x), some (.int y), some (.int (nI v))] [] (am_hh X S3 L) _
    refine ax_s (pc' := 21) (st' := [.ref 285]) rfl rfl rfl rfl ?_
    refine ax_get rfl (hh_285 _ _ _) rfl rfl rfl ?_
    show am_ex (d + 9) 215 24 [some (.ref 285), some (.int q), some (.int (nI r)), some (.int (nI f)), some (.int (nI N)), some (.int x), some (.int y), some (.int (nI v))] [.ref 298] (am_hh X S3 L) _
    refine ax_s (pc' := 25) (st' := [.int 2, .ref 298]) rfl rfl rfl rfl ?_
    refine ax_s (pc' := 27) (st' := [.int (nI v), .int 2, .ref 298]) rfl rfl rfl rfl ?_
    refine ax_ast (j := 2) rfl (hh_298 _ _ _) rfl rfl (by decide) (by decide) (am_hh_set _ _ _ 298 2 _ rfl) ?_
    refine ax_s (pc' := 29) (st' := [.ref 285]) rfl rfl rfl rfl ?_
    refine ax_s (pc' := 30) (st' := [.int (nI r), .ref 285]) rfl rfl rfl rfl ?_
    refine ax_s (pc' := 31) (st' := [.int (nI f), .int (nI r), .ref 285]) rfl rfl rfl rfl ?_
    refine ax_s (pc' := 33) (st' := [.int (nI N), .int (nI f), .int (nI r), .ref 285]) rfl rfl rfl rfl ?_
    refine ax_call (vs := [.ref 285, .int (nI r), .int (nI f), .int (nI N)]) (rr := []) rfl rfl rfl ?_
    refine mt_isSo (c := 298) (j := 0) (by decide) hK hr hfN ht (FB_8 (FB_8 (FB_8 (j := 0) (FB_r (c := 298)) hb8) hf3) (F8_u F8_r)) (mR_lim (Or.inr rfl) hm3) rfl rfl (fun S4 b4 => ?_)
    show am_ex (d + 9) 215 36 [some (.ref 285), some (.int q), some (.int (nI r)), some (.int (nI f)), some (.int (nI N)), some (.int x), some (.int y), some (.int (nI v))] [.int (bI (w_ls g n t N 0 (am_u W 0 1 (nI v))))] (am_hh X S4 L) _
    refine ax_bF rfl (fun c5 => ?_) (fun c5 => ?_)
    · refine ax_s (pc' := 49) (ls' := [some (.ref 285), some (.int q), some (.int (nI r)), some (.int (nI f)), some (.int (nI N)), some (.int x), some (.int y), some (.int ((nI v) + (-1)))]) (st' := []) rfl rfl rfl rfl ?_
      refine ax_s (pc' := 11) (st' := []) rfl rfl rfl rfl ?_
      exact k3 c1 S3 hm3 hf3 S4 b4 c5
    · refine ax_s (pc' := 42) (ls' := [some (.ref 285), some (.int q), some (.int (nI r)), some (.int (nI f)), some (.int (nI N)), some (.int (x + 1)), some (.int y), some (.int (nI v))]) (st' := []) rfl rfl rfl rfl ?_
      refine ax_s (pc' := 44) (st' := [.int (nI v)]) rfl rfl rfl rfl ?_
      refine ax_s (pc' := 46) (ls' := [some (.ref 285), some (.int q), some (.int (nI r)), some (.int (nI f)), some (.int (nI N)), some (.int (x + 1)), some (.int (nI v)), some (.int (nI v))]) (st' := []) rfl rfl rfl rfl ?_
      refine ax_s (pc' := 49) (ls' := [some (.ref 285), some (.int q), some (.int (nI r)), some (.int (nI f)), some (.int (nI N)), some (.int (x + 1)), some (.int (nI v)), some (.int ((nI v) + (-1)))]) (st' := []) rfl rfl rfl rfl ?_
      refine ax_s (pc' := 11) (st' := []) rfl rfl rfl rfl ?_
      exact k4 c1 S3 hm3 hf3 S4 b4 c5
theorem wp_limitsBy {d : Nat} {X : Nat × (Nat → Int32)} {S : Nat → Nat → Int32} {L : Nat → Int64} {r f N : Nat} {q : Int32} {Q : Option Value → am_H → Prop}  (k1 : am_ex (d + 9) 215 11 [some (.ref 285), some (.int q), some (.int (nI r)), some (.int (nI f)), some (.int (nI N)), some (.int 0), some (.int (-1000000)), some (.int 99)] [] (am_hh X S L) Q) : am_mt (d + 9) 215 [.ref 285, .int q, .int (nI r), .int (nI f), .int (nI N)] (am_hh X S L) Q := by
  refine ax_in (ls := [some (.ref 285), some (.int q), some (.int (nI r)), some (.int (nI f)), some (.int (nI N)), none, none, none]) rfl ?_
  refine ax_s (pc' := 1) (st' := [.int 0]) rfl rfl rfl rfl ?_
  refine ax_s (pc' := 3) (ls' := [some (.ref 285), some (.int q), some (.int (nI r)), some (.int (nI f)), some (.int (nI N)), some (.int 0), none, none]) (st' := []) rfl rfl rfl rfl ?_
  refine ax_s (pc' := 5) (st' := [.int (-1000000)]) rfl rfl rfl rfl ?_
  refine ax_s (pc' := 7) (ls' := [some (.ref 285), some (.int q), some (.int (nI r)), some (.int (nI f)), some (.int (nI N)), some (.int 0), some (.int (-1000000)), none]) (st' := []) rfl rfl rfl rfl ?_
  refine ax_s (pc' := 9) (st' := [.int 99]) rfl rfl rfl rfl ?_
  refine ax_s (pc' := 11) (ls' := [some (.ref 285), some (.int q), some (.int (nI r)), some (.int (nI f)), some (.int (nI N)), some (.int 0), some (.int (-1000000)), some (.int 99)]) (st' := []) rfl rfl rfl rfl ?_
  exact k1
