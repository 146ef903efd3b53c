theorem wl_oc1 {d : Nat} {X : Nat × (Nat → Int32)} {S : Nat → Nat → Int32} {L : Nat → Int64} {g n : Nat} {N m l : Nat} {y4 y5 y6 : Option Value} {W1 : Nat → Nat → Int32} {Q : Option Value → am_H → Prop} (hR0 : mB (am_sub S 20) g n) (hG0 : wB (am_sub S 20)) (hN4 : N ≤ 4) (hm20 : m ≤ 20) (hc1 : w_cl W1) (hc0 : w_cl (am_sub S 20))  (x1 : ¬ (1 <<< ((nI N) &&& 31)) ≤ (nI l) → ∀ W2 : Nat → Nat → Int32, w_cl W2 → l < 16) (k1 : (1 <<< ((nI N) &&& 31)) ≤ (nI l) → am_ex (d + 9) 108 32 [some (.ref 281), some (.int (nI N)), some (.int (nI m)), some (.int ((nI N) - 1)), y4, y5, y6] [] (am_hh X (am_ovl S 29 W1) L) Q) (k2 : ¬ (1 <<< ((nI N) &&& 31)) ≤ (nI l) → ∀ W2 : Nat → Nat → Int32, w_cl W2 → am_ex (d + 9) 108 2 [some (.ref 281), some (.int (nI N)), some (.int (nI m)), some (.int (nI (l + 1))), y4, y5, y6] [] (am_hh X (am_ovl (am_u S 282 l (w_wv (am_sub S 20) g n N m l)) 29 W2) L) Q) : am_ex (d + 9) 108 2 [some (.ref 281), some (.int (nI N)), some (.int (nI m)), some (.int (nI l)), y4, y5, y6] [] (am_hh X (am_ovl S 29 W1) L) Q := by
  refine ax_s (pc' := 3) (st' := [.int (nI l)]) rfl rfl rfl rfl ?_
  refine ax_s (pc' := 4) (st' := [.int 1, .int (nI l)]) rfl rfl rfl rfl ?_
  refine ax_s (pc' := 5) (st' := [.int (nI N), .int 1, .int (nI l)]) rfl rfl rfl rfl ?_
  refine ax_s (pc' := 6) (st' := [.int (1 <<< ((nI N) &&& 31)), .int (nI l)]) rfl rfl rfl rfl ?_
  refine ax_cmp_ge rfl (fun c1 => ?_) (fun c1 => ?_)
  · refine ax_s (pc' := 29) (st' := [.int (nI N)]) rfl rfl rfl rfl ?_
    refine ax_s (pc' := 30) (st' := [.int 1, .int (nI N)]) rfl rfl rfl rfl ?_
    refine ax_s (pc' := 31) (st' := [.int ((nI N) - 1)]) rfl rfl rfl rfl ?_
    refine ax_s (pc' := 32) (ls' := [some (.ref 281), some (.int (nI N)), some (.int (nI m)), some (.int ((nI N) - 1)), y4, y5, y6]) (st' := []) rfl rfl rfl rfl ?_
    exact k1 c1
  · refine ax_s (pc' := 10) (st' := [.ref 281]) rfl rfl rfl rfl ?_
    refine ax_get rfl (hh_281 _ _ _) rfl rfl rfl ?_
    show am_ex (d + 9) 108 13 [some (.ref 281), some (.int (nI N)), some (.int (nI m)), some (.int (nI l)), y4, y5, y6] [.ref 282] (am_hh X (am_ovl S 29 W1) L) _
    refine ax_s (pc' := 14) (st' := [.int (nI l), .ref 282]) rfl rfl rfl rfl ?_
    refine ax_s (pc' := 15) (st' := [.ref 281, .int (nI l), .ref 282]) rfl rfl rfl rfl ?_
    refine ax_s (pc' := 16) (st' := [.int (nI l), .ref 281, .int (nI l), .ref 282]) rfl rfl rfl rfl ?_
    refine ax_s (pc' := 17) (st' := [.int (nI N), .int (nI l), .ref 281, .int (nI l), .ref 282]) rfl rfl rfl rfl ?_
    refine ax_s (pc' := 18) (st' := [.int (nI m), .int (nI N), .int (nI l), .ref 281, .int (nI l), .ref 282]) rfl rfl rfl rfl ?_
    refine ax_call (vs := [.ref 281, .int (nI l), .int (nI N), .int (nI m)]) (rr := [.int (nI l), .ref 282]) rfl rfl rfl ?_
    refine kt_rb hR0 hG0 hN4 hm20 hc1 hc0 (fun W2 hw2 => ?_)
    show am_ex (d + 9) 108 21 [some (.ref 281), some (.int (nI N)), some (.int (nI m)), some (.int (nI l)), y4, y5, y6] [.int (w_wv (am_sub S 20) g n N m l), .int (nI l), .ref 282] (am_hh X (am_ovl S 29 W2) L) _
    refine ax_ast (j := l) rfl (hh_282 _ _ _) rfl rfl (x1 c1 W2 hw2) (by decide) (am_hh_setO (i := l) (v := (w_wv (am_sub S 20) g n N m l)) _ _ _ _ (by decide) rfl) ?_
    refine ax_s (pc' := 25) (ls' := [some (.ref 281), some (.int (nI N)), some (.int (nI m)), some (.int ((nI l) + 1)), y4, y5, y6]) (st' := []) rfl rfl rfl rfl ?_
    rw [nI_1]
    refine ax_s (pc' := 2) (st' := []) rfl rfl rfl rfl ?_
    exact k2 c1 W2 hw2
theorem wl_oc2 {d : Nat} {X : Nat × (Nat → Int32)} {S : Nat → Nat → Int32} {L : Nat → Int64} {N m t : Nat} {y4 y5 y6 : Option Value} {W1 : Nat → Nat → Int32} {Q : Option Value → am_H → Prop}  (k1 : (nI t) < 0 → Q (some (.int (S 282 0))) (am_hh X (am_ovl S 29 W1) L)) (k2 : ¬ (nI t) < 0 → am_ex (d + 9) 108 39 [some (.ref 281), some (.int (nI N)), some (.int (nI m)), some (.int (nI t)), some (.int 0), y5, y6] [] (am_hh X (am_ovl S 29 W1) L) Q) : am_ex (d + 9) 108 32 [some (.ref 281), some (.int (nI N)), some (.int (nI m)), some (.int (nI t)), y4, y5, y6] [] (am_hh X (am_ovl S 29 W1) L) Q := by
  refine ax_s (pc' := 33) (st' := [.int (nI t)]) rfl rfl rfl rfl ?_
  refine ax_if_lt rfl (fun c1 => ?_) (fun c1 => ?_)
  · refine ax_s (pc' := 115) (st' := [.ref 281]) rfl rfl rfl rfl ?_
    refine ax_get rfl (hh_281 _ _ _) rfl rfl rfl ?_
    show am_ex (d + 9) 108 118 [some (.ref 281), some (.int (nI N)), some (.int (nI m)), some (.int (nI t)), y4, y5, y6] [.ref 282] (am_hh X (am_ovl S 29 W1) L) _
    refine ax_s (pc' := 119) (st' := [.int 0, .ref 282]) rfl rfl rfl rfl ?_
    refine ax_ald (j := 0) (v := (S 282 0)) rfl (hh_282 _ _ _) rfl rfl (by decide) (by decide) rfl ?_
    refine ax_r rfl rfl rfl ?_
    exact k1 c1
  · refine ax_s (pc' := 37) (st' := [.int 0]) rfl rfl rfl rfl ?_
    refine ax_s (pc' := 39) (ls' := [some (.ref 281), some (.int (nI N)), some (.int (nI m)), some (.int (nI t)), some (.int 0), y5, y6]) (st' := []) rfl rfl rfl rfl ?_
    exact k2 c1
theorem wl_oc2x {d : Nat} {X : Nat × (Nat → Int32)} {S : Nat → Nat → Int32} {L : Nat → Int64} {N m : Nat} {v : Int32} {y4 y5 y6 : Option Value} {W1 : Nat → Nat → Int32} {Q : Option Value → am_H → Prop}  (k1 : v < 0 → Q (some (.int (S 282 0))) (am_hh X (am_ovl S 29 W1) L)) (k2 : ¬ v < 0 → am_ex (d + 9) 108 39 [some (.ref 281), some (.int (nI N)), some (.int (nI m)), some (.int v), some (.int 0), y5, y6] [] (am_hh X (am_ovl S 29 W1) L) Q) : am_ex (d + 9) 108 32 [some (.ref 281), some (.int (nI N)), some (.int (nI m)), some (.int v), y4, y5, y6] [] (am_hh X (am_ovl S 29 W1) L) Q := by
  refine ax_s (pc' := 33) (st' := [.int v]) rfl rfl rfl rfl ?_
  refine ax_if_lt rfl (fun c1 => ?_) (fun c1 => ?_)
  · refine ax_s (pc' := 115) (st' := [.ref 281]) rfl rfl rfl rfl ?_
    refine ax_get rfl (hh_281 _ _ _) rfl rfl rfl ?_
    show am_ex (d + 9) 108 118 [some (.ref 281), some (.int (nI N)), some (.int (nI m)), some (.int v), y4, y5, y6] [.ref 282] (am_hh X (am_ovl S 29 W1) L) _
    refine ax_s (pc' := 119) (st' := [.int 0, .ref 282]) rfl rfl rfl rfl ?_
    refine ax_ald (j := 0) (v := (S 282 0)) rfl (hh_282 _ _ _) rfl rfl (by decide) (by decide) rfl ?_
    refine ax_r rfl rfl rfl ?_
    exact k1 c1
  · refine ax_s (pc' := 37) (st' := [.int 0]) rfl rfl rfl rfl ?_
    refine ax_s (pc' := 39) (ls' := [some (.ref 281), some (.int (nI N)), some (.int (nI m)), some (.int v), some (.int 0), y5, y6]) (st' := []) rfl rfl rfl rfl ?_
    exact k2 c1
theorem wl_oc3 {d : Nat} {X : Nat × (Nat → Int32)} {S : Nat → Nat → Int32} {L : Nat → Int64} {N m t l : Nat} {y5 y6 : Option Value} {W1 : Nat → Nat → Int32} {Q : Option Value → am_H → Prop}  (x1 : ¬ (1 <<< ((nI t) &&& 31)) ≤ (nI l) → (2 * l) < 16) (x2 : ¬ (1 <<< ((nI t) &&& 31)) ≤ (nI l) → ((2 * l) + 1) < 16) (x3 : ¬ (1 <<< ((nI t) &&& 31)) ≤ (nI l) → ¬ ((nI t) &&& 1) = 0 → l < 16) (x4 : ¬ (1 <<< ((nI t) &&& 31)) ≤ (nI l) → ((nI t) &&& 1) = 0 → l < 16) (k1 : (1 <<< ((nI t) &&& 31)) ≤ (nI l) → am_ex (d + 9) 108 32 [some (.ref 281), some (.int (nI N)), some (.int (nI m)), some (.int ((nI t) + (-1))), some (.int (nI l)), y5, y6] [] (am_hh X (am_ovl S 29 W1) L) Q) (k2 : ¬ (1 <<< ((nI t) &&& 31)) ≤ (nI l) → ¬ ((nI t) &&& 1) = 0 → am_ex (d + 9) 108 39 [some (.ref 281), some (.int (nI N)), some (.int (nI m)), some (.int (nI t)), some (.int (nI (l + 1))), some (.int (S 282 (2 * l))), some (.int (S 282 ((2 * l) + 1)))] [] (am_hh X (am_ovl (am_u S 282 l (if (S 282 ((2 * l) + 1)) < (S 282 (2 * l)) then (S 282 ((2 * l) + 1)) else (S 282 (2 * l)))) 29 W1) L) Q) (k3 : ¬ (1 <<< ((nI t) &&& 31)) ≤ (nI l) → ((nI t) &&& 1) = 0 → am_ex (d + 9) 108 39 [some (.ref 281), some (.int (nI N)), some (.int (nI m)), some (.int (nI t)), some (.int (nI (l + 1))), some (.int (S 282 (2 * l))), some (.int (S 282 ((2 * l) + 1)))] [] (am_hh X (am_ovl (am_u S 282 l (if (S 282 (2 * l)) < (S 282 ((2 * l) + 1)) then (S 282 ((2 * l) + 1)) else (S 282 (2 * l)))) 29 W1) L) Q) : am_ex (d + 9) 108 39 [some (.ref 281), some (.int (nI N)), some (.int (nI m)), some (.int (nI t)), some (.int (nI l)), y5, y6] [] (am_hh X (am_ovl S 29 W1) L) Q := by
  refine ax_s (pc' := 41) (st' := [.int (nI l)]) rfl rfl rfl rfl ?_
  refine ax_s (pc' := 42) (st' := [.int 1, .int (nI l)]) rfl rfl rfl rfl ?_
  refine ax_s (pc' := 43) (st' := [.int (nI t), .int 1, .int (nI l)]) rfl rfl rfl rfl ?_
  refine ax_s (pc' := 44) (st' := [.int (1 <<< ((nI t) &&& 31)), .int (nI l)]) rfl rfl rfl rfl ?_
  refine ax_cmp_ge rfl (fun c1 => ?_) (fun c1 => ?_)
  · refine ax_s (pc' := 111) (ls' := [some (.ref 281), some (.int (nI N)), some (.int (nI m)), some (.int ((nI t) + (-1))), some (.int (nI l)), y5, y6]) (st' := []) rfl rfl rfl rfl ?_
    refine ax_s (pc' := 32) (st' := []) rfl rfl rfl rfl ?_
    exact k1 c1
  · refine ax_s (pc' := 48) (st' := [.ref 281]) rfl rfl rfl rfl ?_
    refine ax_get rfl (hh_281 _ _ _) rfl rfl rfl ?_
    show am_ex (d + 9) 108 51 [some (.ref 281), some (.int (nI N)), some (.int (nI m)), some (.int (nI t)), some (.int (nI l)), y5, y6] [.ref 282] (am_hh X (am_ovl S 29 W1) L) _
    refine ax_s (pc' := 52) (st' := [.int 2, .ref 282]) rfl rfl rfl rfl ?_
    refine ax_s (pc' := 54) (st' := [.int (nI l), .int 2, .ref 282]) rfl rfl rfl rfl ?_
    refine ax_s (pc' := 55) (st' := [.int (2 * (nI l)), .ref 282]) rfl rfl rfl rfl ?_
    refine ax_ald (j := (2 * l)) (v := (S 282 (2 * l))) rfl (hh_282 _ _ _) rfl (am_nm (x := 2) (y := l) rfl rfl) (x1 c1) (by decide) rfl ?_
    refine ax_s (pc' := 58) (ls' := [some (.ref 281), some (.int (nI N)), some (.int (nI m)), some (.int (nI t)), some (.int (nI l)), some (.int (S 282 (2 * l))), y6]) (st' := []) rfl rfl rfl rfl ?_
    refine ax_s (pc' := 59) (st' := [.ref 281]) rfl rfl rfl rfl ?_
    refine ax_get rfl (hh_281 _ _ _) rfl rfl rfl ?_
    show am_ex (d + 9) 108 62 [some (.ref 281), some (.int (nI N)), some (.int (nI m)), some (.int (nI t)), some (.int (nI l)), some (.int (S 282 (2 * l))), y6] [.ref 282] (am_hh X (am_ovl S 29 W1) L) _
    refine ax_s (pc' := 63) (st' := [.int 2, .ref 282]) rfl rfl rfl rfl ?_
    refine ax_s (pc' := 65) (st' := [.int (nI l), .int 2, .ref 282]) rfl rfl rfl rfl ?_
    refine ax_s (pc' := 66) (st' := [.int (2 * (nI l)), .ref 282]) rfl rfl rfl rfl ?_
    refine ax_s (pc' := 67) (st' := [.int 1, .int (2 * (nI l)), .ref 282]) rfl rfl rfl rfl ?_
    refine ax_s (pc' := 68) (st' := [.int ((2 * (nI l)) + 1), .ref 282]) rfl rfl rfl rfl ?_
    refine ax_ald (j := ((2 * l) + 1)) (v := (S 282 ((2 * l) + 1))) rfl (hh_282 _ _ _) rfl (am_na (x := (2 * l)) (y := 1) (am_nm (x := 2) (y := l) rfl rfl) rfl) (x2 c1) (by decide) rfl ?_
    refine ax_s (pc' := 71) (ls' := [some (.ref 281), some (.int (nI N)), some (.int (nI m)), some (.int (nI t)), some (.int (nI l)), some (.int (S 282 (2 * l))), some (.int (S 282 ((2 * l) + 1)))]) (st' := []) rfl rfl rfl rfl ?_
    refine ax_s (pc' := 72) (st' := [.ref 281]) rfl rfl rfl rfl ?_
    refine ax_get rfl (hh_281 _ _ _) rfl rfl rfl ?_
    show am_ex (d + 9) 108 75 [some (.ref 281), some (.int (nI N)), some (.int (nI m)), some (.int (nI t)), some (.int (nI l)), some (.int (S 282 (2 * l))), some (.int (S 282 ((2 * l) + 1)))] [.ref 282] (am_hh X (am_ovl S 29 W1) L) _
    refine ax_s (pc' := 77) (st' := [.int (nI l), .ref 282]) rfl rfl rfl rfl ?_
    refine ax_s (pc' := 78) (st' := [.int (nI t), .int (nI l), .ref 282]) rfl rfl rfl rfl ?_
    refine ax_call (vs := [.int (nI t)]) (rr := [.int (nI l), .ref 282]) rfl rfl rfl ?_
    refine ax_in (ls := [some (.int (nI t))]) rfl ?_
    refine ax_s (pc' := 1) (st' := [.int (nI t)]) rfl rfl rfl rfl ?_
    refine ax_s (pc' := 2) (st' := [.int 1, .int (nI t)]) rfl rfl rfl rfl ?_
    refine ax_s (pc' := 3) (st' := [.int ((nI t) &&& 1)]) rfl rfl rfl rfl ?_
    refine ax_if_ne rfl (fun c2 => ?_) (fun c2 => ?_)
    · refine ax_s (pc' := 11) (st' := [.int 0]) rfl rfl rfl rfl ?_
      refine ax_rb (b := false) rfl rfl ?_
      show am_ex (d + 9) 108 81 [some (.ref 281), some (.int (nI N)), some (.int (nI m)), some (.int (nI t)), some (.int (nI l)), some (.int (S 282 (2 * l))), some (.int (S 282 ((2 * l) + 1)))] [.int 0, .int (nI l), .ref 282] (am_hh X (am_ovl S 29 W1) L) _
      refine ax_if_eq rfl (fun c3 => ?_) (fun c3 => False.elim (by revert c3; decide))
      refine ax_s (pc' := 96) (st' := [.int (S 282 (2 * l)), .int (nI l), .ref 282]) rfl rfl rfl rfl ?_
      refine ax_s (pc' := 98) (st' := [.int (S 282 ((2 * l) + 1)), .int (S 282 (2 * l)), .int (nI l), .ref 282]) rfl rfl rfl rfl ?_
      refine ax_call (vs := [.int (S 282 (2 * l)), .int (S 282 ((2 * l) + 1))]) (rr := [.int (nI l), .ref 282]) rfl rfl rfl ?_
      refine ct_min ?_
      show am_ex (d + 9) 108 101 [some (.ref 281), some (.int (nI N)), some (.int (nI m)), some (.int (nI t)), some (.int (nI l)), some (.int (S 282 (2 * l))), some (.int (S 282 ((2 * l) + 1)))] [.int (if (S 282 ((2 * l) + 1)) < (S 282 (2 * l)) then (S 282 ((2 * l) + 1)) else (S 282 (2 * l))), .int (nI l), .ref 282] (am_hh X (am_ovl S 29 W1) L) _
      refine ax_ast (j := l) rfl (hh_282 _ _ _) rfl rfl (x3 c1 c2) (by decide) (am_hh_setO (i := l) (v := (if (S 282 ((2 * l) + 1)) < (S 282 (2 * l)) then (S 282 ((2 * l) + 1)) else (S 282 (2 * l)))) _ _ _ _ (by decide) rfl) ?_
      refine ax_s (pc' := 105) (ls' := [some (.ref 281), some (.int (nI N)), some (.int (nI m)), some (.int (nI t)), some (.int ((nI l) + 1)), some (.int (S 282 (2 * l))), some (.int (S 282 ((2 * l) + 1)))]) (st' := []) rfl rfl rfl rfl ?_
      rw [nI_1]
      refine ax_s (pc' := 39) (st' := []) rfl rfl rfl rfl ?_
      exact k2 c1 c2
    · refine ax_s (pc' := 7) (st' := [.int 1]) rfl rfl rfl rfl ?_
      refine ax_s (pc' := 11) (st' := [.int 1]) rfl rfl rfl rfl ?_
      refine ax_rb (b := true) rfl rfl ?_
      show am_ex (d + 9) 108 81 [some (.ref 281), some (.int (nI N)), some (.int (nI m)), some (.int (nI t)), some (.int (nI l)), some (.int (S 282 (2 * l))), some (.int (S 282 ((2 * l) + 1)))] [.int 1, .int (nI l), .ref 282] (am_hh X (am_ovl S 29 W1) L) _
      refine ax_if_eq rfl (fun c4 => False.elim (by revert c4; decide)) (fun c4 => ?_)
      refine ax_s (pc' := 86) (st' := [.int (S 282 (2 * l)), .int (nI l), .ref 282]) rfl rfl rfl rfl ?_
      refine ax_s (pc' := 88) (st' := [.int (S 282 ((2 * l) + 1)), .int (S 282 (2 * l)), .int (nI l), .ref 282]) rfl rfl rfl rfl ?_
      refine ax_call (vs := [.int (S 282 (2 * l)), .int (S 282 ((2 * l) + 1))]) (rr := [.int (nI l), .ref 282]) rfl rfl rfl ?_
      refine ct_max ?_
      show am_ex (d + 9) 108 91 [some (.ref 281), some (.int (nI N)), some (.int (nI m)), some (.int (nI t)), some (.int (nI l)), some (.int (S 282 (2 * l))), some (.int (S 282 ((2 * l) + 1)))] [.int (if (S 282 (2 * l)) < (S 282 ((2 * l) + 1)) then (S 282 ((2 * l) + 1)) else (S 282 (2 * l))), .int (nI l), .ref 282] (am_hh X (am_ovl S 29 W1) L) _
      refine ax_s (pc' := 101) (st' := [.int (if (S 282 (2 * l)) < (S 282 ((2 * l) + 1)) then (S 282 ((2 * l) + 1)) else (S 282 (2 * l))), .int (nI l), .ref 282]) rfl rfl rfl rfl ?_
      refine ax_ast (j := l) rfl (hh_282 _ _ _) rfl rfl (x4 c1 c2) (by decide) (am_hh_setO (i := l) (v := (if (S 282 (2 * l)) < (S 282 ((2 * l) + 1)) then (S 282 ((2 * l) + 1)) else (S 282 (2 * l)))) _ _ _ _ (by decide) rfl) ?_
      refine ax_s (pc' := 105) (ls' := [some (.ref 281), some (.int (nI N)), some (.int (nI m)), some (.int (nI t)), some (.int ((nI l) + 1)), some (.int (S 282 (2 * l))), some (.int (S 282 ((2 * l) + 1)))]) (st' := []) rfl rfl rfl rfl ?_
      rw [nI_1]
      refine ax_s (pc' := 39) (st' := []) rfl rfl rfl rfl ?_
      exact k3 c1 c2
theorem wp_oc {d : Nat} {X : Nat × (Nat → Int32)} {S : Nat → Nat → Int32} {L : Nat → Int64} {N m : Nat} {W1 : Nat → Nat → Int32} {Q : Option Value → am_H → Prop}  (k1 : am_ex (d + 9) 108 2 [some (.ref 281), some (.int (nI N)), some (.int (nI m)), some (.int 0), none, none, none] [] (am_hh X (am_ovl S 29 W1) L) Q) : am_mt (d + 9) 108 [.ref 281, .int (nI N), .int (nI m)] (am_hh X (am_ovl S 29 W1) L) Q := by
  refine ax_in (ls := [some (.ref 281), some (.int (nI N)), some (.int (nI m)), none, none, none, none]) rfl ?_
  refine ax_s (pc' := 1) (st' := [.int 0]) rfl rfl rfl rfl ?_
  refine ax_s (pc' := 2) (ls' := [some (.ref 281), some (.int (nI N)), some (.int (nI m)), some (.int 0), none, none, none]) (st' := []) rfl rfl rfl rfl ?_
  exact k1
