theorem wl_move {d : Nat} {X : Nat × (Nat → Int32)} {S : Nat → Nat → Int32} {L : Nat → Int64} {t b : Nat} {W1 : Nat → Nat → Int32} {Q : Option Value → am_H → Prop} (hb : W1 0 2 = nI b)  (x1 : ((nI t) &&& 1) = 0 → b < 12) (k1 : ¬ ((nI t) &&& 1) = 0 → Q none (am_hh X (am_ovl S 29 (am_u W1 0 2 (w_nb W1))) L)) (k2 : ((nI t) &&& 1) = 0 → Q none (am_hh X (am_ovl S 29 (am_u W1 1 b (if ((W1 1 b) + 3) < 9 then ((W1 1 b) + 3) else 9))) L)) : am_ex (d + 2) 110 0 [some (.ref 281), some (.int (nI t)), none] [] (am_hh X (am_ovl S 29 W1) L) Q := by
  refine ax_s (pc' := 1) (st' := [.int (nI t)]) rfl rfl rfl rfl ?_
  refine ax_call (vs := [.int (nI t)]) (rr := []) rfl rfl rfl ?_
  refine ax_in (ls := [some (.int (nI t))]) rfl ?_
  refine ax_s (pc' := 1) (st' := [.int (nI t)]) rfl rfl rfl rfl ?_
  refine ax_s (pc' := 2) (st' := [.int 1, .int (nI t)]) rfl rfl rfl rfl ?_
  refine ax_s (pc' := 3) (st' := [.int ((nI t) &&& 1)]) rfl rfl rfl rfl ?_
  refine ax_if_ne rfl (fun c1 => ?_) (fun c1 => ?_)
  · refine ax_s (pc' := 11) (st' := [.int 0]) rfl rfl rfl rfl ?_
    refine ax_rb (b := false) rfl rfl ?_
    show am_ex (d + 2) 110 4 [some (.ref 281), some (.int (nI t)), none] [.int 0] (am_hh X (am_ovl S 29 W1) L) _
    refine ax_if_eq rfl (fun c2 => ?_) (fun c2 => False.elim (by revert c2; decide))
    refine ax_s (pc' := 44) (st' := [.ref 281]) rfl rfl rfl rfl ?_
    refine ax_get rfl (hh_281 _ _ _) rfl rfl rfl ?_
    show am_ex (d + 2) 110 47 [some (.ref 281), some (.int (nI t)), none] [.ref 29] (am_hh X (am_ovl S 29 W1) L) _
    refine ax_s (pc' := 48) (st' := [.ref 281, .ref 29]) rfl rfl rfl rfl ?_
    refine ax_get rfl (hh_281 _ _ _) rfl rfl rfl ?_
    show am_ex (d + 2) 110 51 [some (.ref 281), some (.int (nI t)), none] [.ref 29, .ref 29] (am_hh X (am_ovl S 29 W1) L) _
    refine ax_call (vs := [.ref 29]) (rr := [.ref 29]) rfl rfl rfl ?_
    refine kw (am_hh_ov isW29 X S L W1).symm (am_hh_ov isW29 X S L W1).symm.symm (fun _ => ct_nextOfBottom (am_isW_k isW29 X S L)) ?_
    show am_ex (d + 2) 110 54 [some (.ref 281), some (.int (nI t)), none] [.int (w_nb W1), .ref 29] (am_hh X (am_ovl S 29 W1) L) _
    refine ax_put rfl (hh_29 _ _ _) rfl rfl (show 2 + 1 ≤ _ from Nat.le_of_ble_eq_true rfl) rfl (am_hh_setW _ _ _ _ 0 2 _ (by decide) rfl) ?_
    refine ax_r rfl rfl rfl ?_
    exact k1 c1
  · refine ax_s (pc' := 7) (st' := [.int 1]) rfl rfl rfl rfl ?_
    refine ax_s (pc' := 11) (st' := [.int 1]) rfl rfl rfl rfl ?_
    refine ax_rb (b := true) rfl rfl ?_
    show am_ex (d + 2) 110 4 [some (.ref 281), some (.int (nI t)), none] [.int 1] (am_hh X (am_ovl S 29 W1) L) _
    refine ax_if_eq rfl (fun c3 => False.elim (by revert c3; decide)) (fun c3 => ?_)
    refine ax_s (pc' := 8) (st' := [.ref 281]) rfl rfl rfl rfl ?_
    refine ax_get rfl (hh_281 _ _ _) rfl rfl rfl ?_
    show am_ex (d + 2) 110 11 [some (.ref 281), some (.int (nI t)), none] [.ref 29] (am_hh X (am_ovl S 29 W1) L) _
    refine ax_get rfl (hh_29 _ _ _) rfl rfl rfl ?_
    show am_ex (d + 2) 110 14 [some (.ref 281), some (.int (nI t)), none] [.int (W1 0 2)] (am_hh X (am_ovl S 29 W1) L) _
    refine ax_s (pc' := 15) (ls' := [some (.ref 281), some (.int (nI t)), some (.int (W1 0 2))]) (st' := []) rfl rfl rfl rfl ?_
    refine ax_s (pc' := 16) (st' := [.ref 281]) rfl rfl rfl rfl ?_
    refine ax_get rfl (hh_281 _ _ _) rfl rfl rfl ?_
    show am_ex (d + 2) 110 19 [some (.ref 281), some (.int (nI t)), some (.int (W1 0 2))] [.ref 29] (am_hh X (am_ovl S 29 W1) L) _
    refine ax_get rfl (hh_29 _ _ _) rfl rfl rfl ?_
    show am_ex (d + 2) 110 22 [some (.ref 281), some (.int (nI t)), some (.int (W1 0 2))] [.ref 30] (am_hh X (am_ovl S 29 W1) L) _
    refine ax_s (pc' := 23) (st' := [.int (W1 0 2), .ref 30]) rfl rfl rfl rfl ?_
    refine ax_s (pc' := 25) (st' := [.int 9, .int (W1 0 2), .ref 30]) rfl rfl rfl rfl ?_
    refine ax_s (pc' := 26) (st' := [.ref 281, .int 9, .int (W1 0 2), .ref 30]) rfl rfl rfl rfl ?_
    refine ax_get rfl (hh_281 _ _ _) rfl rfl rfl ?_
    show am_ex (d + 2) 110 29 [some (.ref 281), some (.int (nI t)), some (.int (W1 0 2))] [.ref 29, .int 9, .int (W1 0 2), .ref 30] (am_hh X (am_ovl S 29 W1) L) _
    refine ax_get rfl (hh_29 _ _ _) rfl rfl rfl ?_
    show am_ex (d + 2) 110 32 [some (.ref 281), some (.int (nI t)), some (.int (W1 0 2))] [.ref 30, .int 9, .int (W1 0 2), .ref 30] (am_hh X (am_ovl S 29 W1) L) _
    refine ax_s (pc' := 33) (st' := [.int (W1 0 2), .ref 30, .int 9, .int (W1 0 2), .ref 30]) rfl rfl rfl rfl ?_
    refine ax_ald (j := b) (v := (W1 1 b)) rfl (hh_30 _ _ _) rfl hb (x1 c1) (by decide) rfl ?_
    refine ax_s (pc' := 35) (st' := [.int 3, .int (W1 1 b), .int 9, .int (W1 0 2), .ref 30]) rfl rfl rfl rfl ?_
    refine ax_s (pc' := 36) (st' := [.int ((W1 1 b) + 3), .int 9, .int (W1 0 2), .ref 30]) rfl rfl rfl rfl ?_
    refine ax_call (vs := [.int 9, .int ((W1 1 b) + 3)]) (rr := [.int (W1 0 2), .ref 30]) rfl rfl rfl ?_
    refine ct_min ?_
    show am_ex (d + 2) 110 39 [some (.ref 281), some (.int (nI t)), some (.int (W1 0 2))] [.int (if ((W1 1 b) + 3) < 9 then ((W1 1 b) + 3) else 9), .int (W1 0 2), .ref 30] (am_hh X (am_ovl S 29 W1) L) _
    refine ax_ast (j := b) rfl (hh_30 _ _ _) rfl hb (x1 c1) (by decide) (am_hh_setW _ _ _ _ 1 b _ (by decide) rfl) ?_
    refine ax_s (pc' := 57) (st' := []) rfl rfl rfl rfl ?_
    refine ax_r rfl rfl rfl ?_
    exact k2 c1
theorem kt_move {d : Nat} {X : Nat × (Nat → Int32)} {S W1 : Nat → Nat → Int32} {L : Nat → Int64} {t b : Nat} {Q : Option Value → am_H → Prop} (hb : W1 0 2 = nI b) (hb12 : b < 12) (ht : t < 2 ^ 31) (hQ : Q none (am_hh X (am_ovl S 29 (w_mv W1 b t)) L)) : am_mt (d + 2) 110 [.ref 281, .int (nI t)] (am_hh X (am_ovl S 29 W1) L) Q := by
  have e : nI t &&& 1 = nI (t % 2) := pk_andN (by omega) 1 (by decide)
  refine ax_in (ls := [some (.ref 281), some (.int (nI t)), none]) rfl ?_
  refine wl_move hb (fun _ => hb12) (fun c => ?_) (fun c => ?_)
  · rw [e, show (0 : Int32) = nI 0 from rfl, nI_eq (by omega) (by omega)] at c
    unfold w_mv at hQ
    rw [if_neg c] at hQ
    exact hQ
  · rw [e, show (0 : Int32) = nI 0 from rfl, nI_eq (by omega) (by omega)] at c
    unfold w_mv at hQ
    rw [if_pos c] at hQ
    exact hQ
theorem wl_rb1 {d : Nat} {X : Nat × (Nat → Int32)} {S : Nat → Nat → Int32} {L : Nat → Int64} {c N m j b : Nat} {W1 : Nat → Nat → Int32} {Q : Option Value → am_H → Prop} (hb : W1 0 2 = nI b) (hb12 : b < 12) (hj : j < 100)  (k1 : (nI N) ≤ (nI j) → am_ex (d + 8) 109 49 [some (.ref 281), some (.int (nI c)), some (.int (nI N)), some (.int (nI m)), some (.int 0)] [] (am_hh X (am_ovl S 29 W1) L) Q) (k2 : ¬ (nI N) ≤ (nI j) → ¬ (((nI c) >>> ((((nI N) - 1) - (nI j)) &&& 31)) &&& 1) = 1 → am_ex (d + 8) 109 14 [some (.ref 281), some (.int (nI c)), some (.int (nI N)), some (.int (nI m)), some (.int (nI (j + 1)))] [] (am_hh X (am_ovl S 29 W1) L) Q) (k3 : ¬ (nI N) ≤ (nI j) → (((nI c) >>> ((((nI N) - 1) - (nI j)) &&& 31)) &&& 1) = 1 → am_ex (d + 8) 109 14 [some (.ref 281), some (.int (nI c)), some (.int (nI N)), some (.int (nI m)), some (.int (nI (j + 1)))] [] (am_hh X (am_ovl S 29 (w_mv W1 b j)) L) Q) : am_ex (d + 8) 109 14 [some (.ref 281), some (.int (nI c)), some (.int (nI N)), some (.int (nI m)), some (.int (nI j))] [] (am_hh X (am_ovl S 29 W1) L) Q := by
  refine ax_s (pc' := 16) (st' := [.int (nI j)]) rfl rfl rfl rfl ?_
  refine ax_s (pc' := 17) (st' := [.int (nI N), .int (nI j)]) rfl rfl rfl rfl ?_
  refine ax_cmp_ge rfl (fun c1 => ?_) (fun c1 => ?_)
  · refine ax_s (pc' := 47) (st' := [.int 0]) rfl rfl rfl rfl ?_
    refine ax_s (pc' := 49) (ls' := [some (.ref 281), some (.int (nI c)), some (.int (nI N)), some (.int (nI m)), some (.int 0)]) (st' := []) rfl rfl rfl rfl ?_
    exact k1 c1
  · refine ax_s (pc' := 21) (st' := [.int (nI c)]) rfl rfl rfl rfl ?_
    refine ax_s (pc' := 22) (st' := [.int (nI N), .int (nI c)]) rfl rfl rfl rfl ?_
    refine ax_s (pc' := 23) (st' := [.int 1, .int (nI N), .int (nI c)]) rfl rfl rfl rfl ?_
    refine ax_s (pc' := 24) (st' := [.int ((nI N) - 1), .int (nI c)]) rfl rfl rfl rfl ?_
    refine ax_s (pc' := 26) (st' := [.int (nI j), .int ((nI N) - 1), .int (nI c)]) rfl rfl rfl rfl ?_
    refine ax_s (pc' := 27) (st' := [.int (((nI N) - 1) - (nI j)), .int (nI c)]) rfl rfl rfl rfl ?_
    refine ax_s (pc' := 28) (st' := [.int ((nI c) >>> ((((nI N) - 1) - (nI j)) &&& 31))]) rfl rfl rfl rfl ?_
    refine ax_s (pc' := 29) (st' := [.int 1, .int ((nI c) >>> ((((nI N) - 1) - (nI j)) &&& 31))]) rfl rfl rfl rfl ?_
    refine ax_s (pc' := 30) (st' := [.int (((nI c) >>> ((((nI N) - 1) - (nI j)) &&& 31)) &&& 1)]) rfl rfl rfl rfl ?_
    refine ax_s (pc' := 31) (st' := [.int 1, .int (((nI c) >>> ((((nI N) - 1) - (nI j)) &&& 31)) &&& 1)]) rfl rfl rfl rfl ?_
    refine ax_cmp_ne rfl (fun c2 => ?_) (fun c2 => ?_)
    · refine ax_s (pc' := 43) (ls' := [some (.ref 281), some (.int (nI c)), some (.int (nI N)), some (.int (nI m)), some (.int ((nI j) + 1))]) (st' := []) rfl rfl rfl rfl ?_
      rw [nI_1]
      refine ax_s (pc' := 14) (st' := []) rfl rfl rfl rfl ?_
      exact k2 c1 c2
    · refine ax_s (pc' := 35) (st' := [.ref 281]) rfl rfl rfl rfl ?_
      refine ax_s (pc' := 37) (st' := [.int (nI j), .ref 281]) rfl rfl rfl rfl ?_
      refine ax_call (vs := [.ref 281, .int (nI j)]) (rr := []) rfl rfl rfl ?_
      refine kt_move (t := j) (b := b) hb hb12 (by omega) ?_
      show am_ex (d + 8) 109 40 [some (.ref 281), some (.int (nI c)), some (.int (nI N)), some (.int (nI m)), some (.int (nI j))] [] (am_hh X (am_ovl S 29 (w_mv W1 b j)) L) _
      refine ax_s (pc' := 43) (ls' := [some (.ref 281), some (.int (nI c)), some (.int (nI N)), some (.int (nI m)), some (.int ((nI j) + 1))]) (st' := []) rfl rfl rfl rfl ?_
      rw [nI_1]
      refine ax_s (pc' := 14) (st' := []) rfl rfl rfl rfl ?_
      exact k3 c1 c2
theorem wl_rb2 {d : Nat} {X : Nat × (Nat → Int32)} {S : Nat → Nat → Int32} {L : Nat → Int64} {g n : Nat} {c N m j : Nat} {W1 : Nat → Nat → Int32} {Q : Option Value → am_H → Prop} (hf : wF W1 g n)  (k1 : (nI m) ≤ (nI j) → Q (some (.int (w_sum (W1 7) n 0 0))) (am_hh X (am_ovl S 29 W1) L)) (k2 : ¬ (nI m) ≤ (nI j) → am_ex (d + 8) 109 49 [some (.ref 281), some (.int (nI c)), some (.int (nI N)), some (.int (nI m)), some (.int (nI (j + 1)))] [] (am_hh X (am_ovl S 29 (w_ms W1 rk0 g n)) L) Q) : am_ex (d + 8) 109 49 [some (.ref 281), some (.int (nI c)), some (.int (nI N)), some (.int (nI m)), some (.int (nI j))] [] (am_hh X (am_ovl S 29 W1) L) Q := by
  refine ax_s (pc' := 51) (st' := [.int (nI j)]) rfl rfl rfl rfl ?_
  refine ax_s (pc' := 52) (st' := [.int (nI m), .int (nI j)]) rfl rfl rfl rfl ?_
  refine ax_cmp_ge rfl (fun c1 => ?_) (fun c1 => ?_)
  · refine ax_s (pc' := 73) (st' := [.ref 281]) rfl rfl rfl rfl ?_
    refine ax_get rfl (hh_281 _ _ _) rfl rfl rfl ?_
    show am_ex (d + 8) 109 76 [some (.ref 281), some (.int (nI c)), some (.int (nI N)), some (.int (nI m)), some (.int (nI j))] [.ref 29] (am_hh X (am_ovl S 29 W1) L) _
    refine ax_call (vs := [.ref 29]) (rr := []) rfl rfl rfl ?_
    refine kw (am_hh_ov isW29 X S L W1).symm (am_hh_ov isW29 X S L W1).symm.symm (fun _ => ct_riddenOfAll (am_isW_k isW29 X S L) hf.1 hf.2.1) ?_
    show am_ex (d + 8) 109 79 [some (.ref 281), some (.int (nI c)), some (.int (nI N)), some (.int (nI m)), some (.int (nI j))] [.int (w_sum (W1 7) n 0 0)] (am_hh X (am_ovl S 29 W1) L) _
    refine ax_r rfl rfl rfl ?_
    exact k1 c1
  · refine ax_s (pc' := 56) (st' := [.ref 281]) rfl rfl rfl rfl ?_
    refine ax_get rfl (hh_281 _ _ _) rfl rfl rfl ?_
    show am_ex (d + 8) 109 59 [some (.ref 281), some (.int (nI c)), some (.int (nI N)), some (.int (nI m)), some (.int (nI j))] [.ref 29] (am_hh X (am_ovl S 29 W1) L) _
    refine ax_s (pc' := 62) (st' := [.ref 1, .ref 29]) rfl rfl rfl rfl ?_
    refine ax_call (vs := [.ref 29, .ref 1]) (rr := []) rfl rfl rfl ?_
    refine kw (am_hh_ov isW29 X S L W1).symm (am_hh_ov isW29 X S L _) (fun _ => ct_makeStep (rk := rk0) (am_isW_k isW29 X S L) hf.1 hf.2.1 hf.2.2.1 hf.2.2.2 (hh_s1 _ _ _) (by decide) (show 1 < 301 + 5 by decide)) ?_
    show am_ex (d + 8) 109 65 [some (.ref 281), some (.int (nI c)), some (.int (nI N)), some (.int (nI m)), some (.int (nI j))] [.int (bI (w_mb W1 rk0 g n))] (am_hh X (am_ovl S 29 (w_ms W1 rk0 g n)) L) _
    refine ax_s (pc' := 66) (st' := []) rfl rfl rfl rfl ?_
    refine ax_s (pc' := 69) (ls' := [some (.ref 281), some (.int (nI c)), some (.int (nI N)), some (.int (nI m)), some (.int ((nI j) + 1))]) (st' := []) rfl rfl rfl rfl ?_
    rw [nI_1]
    refine ax_s (pc' := 49) (st' := []) rfl rfl rfl rfl ?_
    exact k2 c1
theorem wp_rb {d : Nat} {X : Nat × (Nat → Int32)} {S : Nat → Nat → Int32} {L : Nat → Int64} {c N m : Nat} {W1 : Nat → Nat → Int32} {Q : Option Value → am_H → Prop} (hc1 : w_cl W1) (hc0 : w_cl (am_sub S 20))  (k1 : am_ex (d + 8) 109 14 [some (.ref 281), some (.int (nI c)), some (.int (nI N)), some (.int (nI m)), some (.int 0)] [] (am_hh X (am_ovl S 29 (am_sub S 20)) L) Q) : am_mt (d + 8) 109 [.ref 281, .int (nI c), .int (nI N), .int (nI m)] (am_hh X (am_ovl S 29 W1) L) Q := by
  refine ax_in (ls := [some (.ref 281), some (.int (nI c)), some (.int (nI N)), some (.int (nI m)), none]) rfl ?_
  refine ax_s (pc' := 1) (st' := [.ref 281]) rfl rfl rfl rfl ?_
  refine ax_get rfl (hh_281 _ _ _) rfl rfl rfl ?_
  show am_ex (d + 8) 109 4 [some (.ref 281), some (.int (nI c)), some (.int (nI N)), some (.int (nI m)), none] [.ref 29] (am_hh X (am_ovl S 29 W1) L) _
  refine ax_s (pc' := 5) (st' := [.ref 281, .ref 29]) rfl rfl rfl rfl ?_
  refine ax_get rfl (hh_281 _ _ _) rfl rfl rfl ?_
  show am_ex (d + 8) 109 8 [some (.ref 281), some (.int (nI c)), some (.int (nI N)), some (.int (nI m)), none] [.ref 20, .ref 29] (am_hh X (am_ovl S 29 W1) L) _
  refine ax_call (vs := [.ref 29, .ref 20]) (rr := []) rfl rfl rfl ?_
  refine kt_takeFrom29' hc1 hc0 ?_
  show am_ex (d + 8) 109 11 [some (.ref 281), some (.int (nI c)), some (.int (nI N)), some (.int (nI m)), none] [] (am_hh X (am_ovl S 29 (am_sub S 20)) L) _
  refine ax_s (pc' := 12) (st' := [.int 0]) rfl rfl rfl rfl ?_
  refine ax_s (pc' := 14) (ls' := [some (.ref 281), some (.int (nI c)), some (.int (nI N)), some (.int (nI m)), some (.int 0)]) (st' := []) rfl rfl rfl rfl ?_
  exact k1
