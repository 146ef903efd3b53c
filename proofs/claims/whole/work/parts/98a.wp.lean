theorem wp_k_undo {d : Nat} {X : Nat × (Nat → Int32)} {S : Nat → Nat → Int32} {L : Nat → Int64} {m : Nat} {Q : Option Value → am_H → Prop} (hm1 : ¬ (S 38 1) ≤ 0 → S 38 1 - 1 = nI (m - 1))  (f1 : ¬ (S 38 2) = 0 → (S 38 1) ≤ 0 → w_cl (am_sub (am_u S 38 1 23) 20)) (f2 : ¬ (S 38 2) = 0 → (S 38 1) ≤ 0 → w_cl (am_sub (am_u S 38 1 23) (40 + 9 * 23))) (f3 : ¬ (S 38 2) = 0 → ¬ (S 38 1) ≤ 0 → w_cl (am_sub (am_u S 38 1 ((S 38 1) - 1)) 20)) (f4 : ¬ (S 38 2) = 0 → ¬ (S 38 1) ≤ 0 → w_cl (am_sub (am_u S 38 1 ((S 38 1) - 1)) (40 + 9 * (m - 1)))) (x1 : ¬ (S 38 2) = 0 → (S 38 1) ≤ 0 → 23 < 24) (x2 : ¬ (S 38 2) = 0 → ¬ (S 38 1) ≤ 0 → (m - 1) < 24) (k1 : ¬ (S 38 2) = 0 → (S 38 1) ≤ 0 → Q (some (.int ((S 38 2) - 1))) (am_hh X (am_u (am_u (am_ovl (am_u S 38 1 23) 20 (am_sub (am_u S 38 1 23) (40 + 9 * 23))) 38 2 ((S 38 2) - 1)) 277 3 0) L)) (k2 : ¬ (S 38 2) = 0 → ¬ (S 38 1) ≤ 0 → Q (some (.int ((S 38 2) - 1))) (am_hh X (am_u (am_u (am_ovl (am_u S 38 1 ((S 38 1) - 1)) 20 (am_sub (am_u S 38 1 ((S 38 1) - 1)) (40 + 9 * (m - 1)))) 38 2 ((S 38 2) - 1)) 277 3 0) L)) (k3 : (S 38 2) = 0 → Q (some (.int (-1000002))) (am_hh X S L)) : am_mt (d + 8) 47 [.ref 5] (am_hh X S L) Q := by
  refine ax_in (ls := [some (.ref 5)]) rfl ?_
  refine ax_s (pc' := 1) (st' := [.ref 5]) rfl rfl rfl rfl ?_
  refine ax_get rfl (hh_5 _ _ _) rfl rfl rfl ?_
  show am_ex (d + 8) 47 4 [some (.ref 5)] [.ref 38] (am_hh X S L) _
  refine ax_get rfl (hh_38 _ _ _) rfl rfl rfl ?_
  show am_ex (d + 8) 47 7 [some (.ref 5)] [.int (S 38 2)] (am_hh X S L) _
  refine ax_if_ne rfl (fun c1 => ?_) (fun c1 => ?_)
  · refine ax_s (pc' := 14) (st' := [.ref 5]) rfl rfl rfl rfl ?_
    refine ax_get rfl (hh_5 _ _ _) rfl rfl rfl ?_
    show am_ex (d + 8) 47 17 [some (.ref 5)] [.ref 38] (am_hh X S L) _
    refine ax_s (pc' := 18) (st' := [.ref 5, .ref 38]) rfl rfl rfl rfl ?_
    refine ax_get rfl (hh_5 _ _ _) rfl rfl rfl ?_
    show am_ex (d + 8) 47 21 [some (.ref 5)] [.ref 20, .ref 38] (am_hh X S L) _
    refine ax_call (vs := [.ref 38, .ref 20]) (rr := []) rfl rfl rfl ?_
    refine ax_in (ls := [some (.ref 38), some (.ref 20)]) rfl ?_
    refine ax_s (pc' := 1) (st' := [.ref 38]) rfl rfl rfl rfl ?_
    refine ax_get rfl (hh_38 _ _ _) rfl rfl rfl ?_
    show am_ex (d + 7) 48 4 [some (.ref 38), some (.ref 20)] [.int (S 38 2)] (am_hh X S L) _
    refine ax_if_ne rfl (fun c2 => ?_) (fun c2 => False.elim (by first | exact c2 c1 | exact c1 c2))
    refine ax_s (pc' := 9) (st' := [.ref 38]) rfl rfl rfl rfl ?_
    refine ax_s (pc' := 10) (st' := [.ref 38, .ref 38]) rfl rfl rfl rfl ?_
    refine ax_get rfl (hh_38 _ _ _) rfl rfl rfl ?_
    show am_ex (d + 7) 48 13 [some (.ref 38), some (.ref 20)] [.int (S 38 1), .ref 38] (am_hh X S L) _
    refine ax_if_le rfl (fun c3 => ?_) (fun c3 => ?_)
    · refine ax_s (pc' := 27) (st' := [.int 23, .ref 38]) rfl rfl rfl rfl ?_
      refine ax_put rfl (hh_38 _ _ _) rfl rfl (show 1 + 1 ≤ _ from Nat.le_of_ble_eq_true rfl) rfl (am_hh_set _ _ _ 38 1 _ rfl) ?_
      refine ax_s (pc' := 31) (st' := [.ref 20]) rfl rfl rfl rfl ?_
      refine ax_s (pc' := 32) (st' := [.ref 38, .ref 20]) rfl rfl rfl rfl ?_
      refine ax_get rfl (hh_38 _ _ _) rfl rfl rfl ?_
      show am_ex (d + 7) 48 35 [some (.ref 38), some (.ref 20)] [.ref 39, .ref 20] (am_hh X (am_u S 38 1 23) L) _
      refine ax_s (pc' := 36) (st' := [.ref 38, .ref 39, .ref 20]) rfl rfl rfl rfl ?_
      refine ax_get rfl (hh_38 _ _ _) rfl rfl rfl ?_
      show am_ex (d + 7) 48 39 [some (.ref 38), some (.ref 20)] [.int 23, .ref 39, .ref 20] (am_hh X (am_u S 38 1 23) L) _
      refine ax_qld (j := 23) (b := (40 + 9 * 23)) rfl (hh_39 _ _ _) rfl (by decide) rfl (x1 c1 c3) (by decide) (if_pos (x1 c1 c3)) ?_
      refine ax_call (vs := [.ref 20, .ref (40 + 9 * 23)]) (rr := []) rfl rfl rfl ?_
      refine kt_takeFrom isW20 (isW_past (x1 c1 c3)) (by omega) (f1 c1 c3) (f2 c1 c3) ?_
      show am_ex (d + 7) 48 43 [some (.ref 38), some (.ref 20)] [] (am_hh X (am_ovl (am_u S 38 1 23) 20 (am_sub (am_u S 38 1 23) (40 + 9 * 23))) L) _
      refine ax_s (pc' := 44) (st' := [.ref 38]) rfl rfl rfl rfl ?_
      refine ax_s (pc' := 45) (st' := [.ref 38, .ref 38]) rfl rfl rfl rfl ?_
      refine ax_get rfl (hh_38 _ _ _) rfl rfl rfl ?_
      show am_ex (d + 7) 48 48 [some (.ref 38), some (.ref 20)] [.int (S 38 2), .ref 38] (am_hh X (am_ovl (am_u S 38 1 23) 20 (am_sub (am_u S 38 1 23) (40 + 9 * 23))) L) _
      refine ax_s (pc' := 49) (st' := [.int 1, .int (S 38 2), .ref 38]) rfl rfl rfl rfl ?_
      refine ax_s (pc' := 50) (st' := [.int ((S 38 2) - 1), .ref 38]) rfl rfl rfl rfl ?_
      refine ax_put rfl (hh_38 _ _ _) rfl rfl (show 2 + 1 ≤ _ from Nat.le_of_ble_eq_true rfl) rfl (am_hh_set _ _ _ 38 2 _ rfl) ?_
      refine ax_r rfl rfl rfl ?_
      show am_ex (d + 8) 47 24 [some (.ref 5)] [] (am_hh X (am_u (am_ovl (am_u S 38 1 23) 20 (am_sub (am_u S 38 1 23) (40 + 9 * 23))) 38 2 ((S 38 2) - 1)) L) _
      refine ax_s (pc' := 25) (st' := [.ref 5]) rfl rfl rfl rfl ?_
      refine ax_get rfl (hh_5 _ _ _) rfl rfl rfl ?_
      show am_ex (d + 8) 47 28 [some (.ref 5)] [.ref 277] (am_hh X (am_u (am_ovl (am_u S 38 1 23) 20 (am_sub (am_u S 38 1 23) (40 + 9 * 23))) 38 2 ((S 38 2) - 1)) L) _
      refine ax_call (vs := [.ref 277]) (rr := []) rfl rfl rfl ?_
      refine ax_in (ls := [some (.ref 277)]) rfl ?_
      refine ax_s (pc' := 1) (st' := [.ref 277]) rfl rfl rfl rfl ?_
      refine ax_s (pc' := 2) (st' := [.int 0, .ref 277]) rfl rfl rfl rfl ?_
      refine ax_put rfl (hh_277 _ _ _) rfl rfl (show 3 + 1 ≤ _ from Nat.le_of_ble_eq_true rfl) rfl (am_hh_set _ _ _ 277 3 _ rfl) ?_
      refine ax_r rfl rfl rfl ?_
      show am_ex (d + 8) 47 31 [some (.ref 5)] [] (am_hh X (am_u (am_u (am_ovl (am_u S 38 1 23) 20 (am_sub (am_u S 38 1 23) (40 + 9 * 23))) 38 2 ((S 38 2) - 1)) 277 3 0) L) _
      refine ax_s (pc' := 32) (st' := [.ref 5]) rfl rfl rfl rfl ?_
      refine ax_get rfl (hh_5 _ _ _) rfl rfl rfl ?_
      show am_ex (d + 8) 47 35 [some (.ref 5)] [.ref 38] (am_hh X (am_u (am_u (am_ovl (am_u S 38 1 23) 20 (am_sub (am_u S 38 1 23) (40 + 9 * 23))) 38 2 ((S 38 2) - 1)) 277 3 0) L) _
      refine ax_get rfl (hh_38 _ _ _) rfl rfl rfl ?_
      show am_ex (d + 8) 47 38 [some (.ref 5)] [.int ((S 38 2) - 1)] (am_hh X (am_u (am_u (am_ovl (am_u S 38 1 23) 20 (am_sub (am_u S 38 1 23) (40 + 9 * 23))) 38 2 ((S 38 2) - 1)) 277 3 0) L) _
      refine ax_r rfl rfl rfl ?_
      exact k1 c1 c3
    · refine ax_s (pc' := 17) (st' := [.ref 38, .ref 38]) rfl rfl rfl rfl ?_
      refine ax_get rfl (hh_38 _ _ _) rfl rfl rfl ?_
      show am_ex (d + 7) 48 20 [some (.ref 38), some (.ref 20)] [.int (S 38 1), .ref 38] (am_hh X S L) _
      refine ax_s (pc' := 21) (st' := [.int 1, .int (S 38 1), .ref 38]) rfl rfl rfl rfl ?_
      refine ax_s (pc' := 22) (st' := [.int ((S 38 1) - 1), .ref 38]) rfl rfl rfl rfl ?_
      refine ax_s (pc' := 27) (st' := [.int ((S 38 1) - 1), .ref 38]) rfl rfl rfl rfl ?_
      refine ax_put rfl (hh_38 _ _ _) rfl rfl (show 1 + 1 ≤ _ from Nat.le_of_ble_eq_true rfl) rfl (am_hh_set _ _ _ 38 1 _ rfl) ?_
      refine ax_s (pc' := 31) (st' := [.ref 20]) rfl rfl rfl rfl ?_
      refine ax_s (pc' := 32) (st' := [.ref 38, .ref 20]) rfl rfl rfl rfl ?_
      refine ax_get rfl (hh_38 _ _ _) rfl rfl rfl ?_
      show am_ex (d + 7) 48 35 [some (.ref 38), some (.ref 20)] [.ref 39, .ref 20] (am_hh X (am_u S 38 1 ((S 38 1) - 1)) L) _
      refine ax_s (pc' := 36) (st' := [.ref 38, .ref 39, .ref 20]) rfl rfl rfl rfl ?_
      refine ax_get rfl (hh_38 _ _ _) rfl rfl rfl ?_
      show am_ex (d + 7) 48 39 [some (.ref 38), some (.ref 20)] [.int ((S 38 1) - 1), .ref 39, .ref 20] (am_hh X (am_u S 38 1 ((S 38 1) - 1)) L) _
      refine ax_qld (j := (m - 1)) (b := (40 + 9 * (m - 1))) rfl (hh_39 _ _ _) rfl (by decide) (hm1 (by assumption)) (x2 c1 c3) (by decide) (if_pos (x2 c1 c3)) ?_
      refine ax_call (vs := [.ref 20, .ref (40 + 9 * (m - 1))]) (rr := []) rfl rfl rfl ?_
      refine kt_takeFrom isW20 (isW_past (x2 c1 c3)) (by omega) (f3 c1 c3) (f4 c1 c3) ?_
      show am_ex (d + 7) 48 43 [some (.ref 38), some (.ref 20)] [] (am_hh X (am_ovl (am_u S 38 1 ((S 38 1) - 1)) 20 (am_sub (am_u S 38 1 ((S 38 1) - 1)) (40 + 9 * (m - 1)))) L) _
      refine ax_s (pc' := 44) (st' := [.ref 38]) rfl rfl rfl rfl ?_
      refine ax_s (pc' := 45) (st' := [.ref 38, .ref 38]) rfl rfl rfl rfl ?_
      refine ax_get rfl (hh_38 _ _ _) rfl rfl rfl ?_
      show am_ex (d + 7) 48 48 [some (.ref 38), some (.ref 20)] [.int (S 38 2), .ref 38] (am_hh X (am_ovl (am_u S 38 1 ((S 38 1) - 1)) 20 (am_sub (am_u S 38 1 ((S 38 1) - 1)) (40 + 9 * (m - 1)))) L) _
      refine ax_s (pc' := 49) (st' := [.int 1, .int (S 38 2), .ref 38]) rfl rfl rfl rfl ?_
      refine ax_s (pc' := 50) (st' := [.int ((S 38 2) - 1), .ref 38]) rfl rfl rfl rfl ?_
      refine ax_put rfl (hh_38 _ _ _) rfl rfl (show 2 + 1 ≤ _ from Nat.le_of_ble_eq_true rfl) rfl (am_hh_set _ _ _ 38 2 _ rfl) ?_
      refine ax_r rfl rfl rfl ?_
      show am_ex (d + 8) 47 24 [some (.ref 5)] [] (am_hh X (am_u (am_ovl (am_u S 38 1 ((S 38 1) - 1)) 20 (am_sub (am_u S 38 1 ((S 38 1) - 1)) (40 + 9 * (m - 1)))) 38 2 ((S 38 2) - 1)) L) _
      refine ax_s (pc' := 25) (st' := [.ref 5]) rfl rfl rfl rfl ?_
      refine ax_get rfl (hh_5 _ _ _) rfl rfl rfl ?_
      show am_ex (d + 8) 47 28 [some (.ref 5)] [.ref 277] (am_hh X (am_u (am_ovl (am_u S 38 1 ((S 38 1) - 1)) 20 (am_sub (am_u S 38 1 ((S 38 1) - 1)) (40 + 9 * (m - 1)))) 38 2 ((S 38 2) - 1)) L) _
      refine ax_call (vs := [.ref 277]) (rr := []) rfl rfl rfl ?_
      refine ax_in (ls := [some (.ref 277)]) rfl ?_
      refine ax_s (pc' := 1) (st' := [.ref 277]) rfl rfl rfl rfl ?_
      refine ax_s (pc' := 2) (st' := [.int 0, .ref 277]) rfl rfl rfl rfl ?_
      refine ax_put rfl (hh_277 _ _ _) rfl rfl (show 3 + 1 ≤ _ from Nat.le_of_ble_eq_true rfl) rfl (am_hh_set _ _ _ 277 3 _ rfl) ?_
      refine ax_r rfl rfl rfl ?_
      show am_ex (d + 8) 47 31 [some (.ref 5)] [] (am_hh X (am_u (am_u (am_ovl (am_u S 38 1 ((S 38 1) - 1)) 20 (am_sub (am_u S 38 1 ((S 38 1) - 1)) (40 + 9 * (m - 1)))) 38 2 ((S 38 2) - 1)) 277 3 0) L) _
      refine ax_s (pc' := 32) (st' := [.ref 5]) rfl rfl rfl rfl ?_
      refine ax_get rfl (hh_5 _ _ _) rfl rfl rfl ?_
      show am_ex (d + 8) 47 35 [some (.ref 5)] [.ref 38] (am_hh X (am_u (am_u (am_ovl (am_u S 38 1 ((S 38 1) - 1)) 20 (am_sub (am_u S 38 1 ((S 38 1) - 1)) (40 + 9 * (m - 1)))) 38 2 ((S 38 2) - 1)) 277 3 0) L) _
      refine ax_get rfl (hh_38 _ _ _) rfl rfl rfl ?_
      show am_ex (d + 8) 47 38 [some (.ref 5)] [.int ((S 38 2) - 1)] (am_hh X (am_u (am_u (am_ovl (am_u S 38 1 ((S 38 1) - 1)) 20 (am_sub (am_u S 38 1 ((S 38 1) - 1)) (40 + 9 * (m - 1)))) 38 2 ((S 38 2) - 1)) 277 3 0) L) _
      refine ax_r rfl rfl rfl ?_
      exact k2 c1 c3
  · refine ax_s (pc' := 12) (st' := [.int (-1000002)]) rfl rfl rfl rfl ?_
    refine ax_r rfl rfl rfl ?_
    exact k3 c1
theorem wp_m_undo {d : Nat} {X : Nat × (Nat → Int32)} {S : Nat → Nat → Int32} {L : Nat → Int64} {k : Nat} {Q : Option Value → am_H → Prop} (hk1 : ¬ (S 285 14) = 0 → S 285 14 - 1 = nI (k - 1))  (x1 : ¬ (S 285 14) = 0 → (39 * (k - 1)) + 39 ≤ 936) (k1 : ¬ (S 285 14) = 0 → Q (some (.int ((S 285 14) - 1))) (am_hh X (am_uc (am_u S 285 14 ((S 285 14) - 1)) 293 (va_cpy (S 294) (S 293) (39 * (k - 1)) 0 39)) L)) (k2 : (S 285 14) = 0 → Q (some (.int (-1000002))) (am_hh X S L)) : am_mt (d + 8) 169 [.ref 285] (am_hh X S L) Q := by
  refine ax_in (ls := [some (.ref 285)]) rfl ?_
  refine ax_s (pc' := 1) (st' := [.ref 285]) rfl rfl rfl rfl ?_
  refine ax_get rfl (hh_285 _ _ _) rfl rfl rfl ?_
  show am_ex (d + 8) 169 4 [some (.ref 285)] [.int (S 285 14)] (am_hh X S L) _
  refine ax_if_ne rfl (fun c1 => ?_) (fun c1 => ?_)
  · refine ax_s (pc' := 11) (st' := [.ref 285]) rfl rfl rfl rfl ?_
    refine ax_s (pc' := 12) (st' := [.ref 285, .ref 285]) rfl rfl rfl rfl ?_
    refine ax_get rfl (hh_285 _ _ _) rfl rfl rfl ?_
    show am_ex (d + 8) 169 15 [some (.ref 285)] [.int (S 285 14), .ref 285] (am_hh X S L) _
    refine ax_s (pc' := 16) (st' := [.int 1, .int (S 285 14), .ref 285]) rfl rfl rfl rfl ?_
    refine ax_s (pc' := 17) (st' := [.int ((S 285 14) - 1), .ref 285]) rfl rfl rfl rfl ?_
    refine ax_put rfl (hh_285 _ _ _) rfl rfl (show 14 + 1 ≤ _ from Nat.le_of_ble_eq_true rfl) rfl (am_hh_set _ _ _ 285 14 _ rfl) ?_
    refine ax_s (pc' := 21) (st' := [.ref 285]) rfl rfl rfl rfl ?_
    refine ax_get rfl (hh_285 _ _ _) rfl rfl rfl ?_
    show am_ex (d + 8) 169 24 [some (.ref 285)] [.ref 294] (am_hh X (am_u S 285 14 ((S 285 14) - 1)) L) _
    refine ax_s (pc' := 26) (st' := [.int 39, .ref 294]) rfl rfl rfl rfl ?_
    refine ax_s (pc' := 27) (st' := [.ref 285, .int 39, .ref 294]) rfl rfl rfl rfl ?_
    refine ax_get rfl (hh_285 _ _ _) rfl rfl rfl ?_
    show am_ex (d + 8) 169 30 [some (.ref 285)] [.int ((S 285 14) - 1), .int 39, .ref 294] (am_hh X (am_u S 285 14 ((S 285 14) - 1)) L) _
    refine ax_s (pc' := 31) (st' := [.int (39 * ((S 285 14) - 1)), .ref 294]) rfl rfl rfl rfl ?_
    refine ax_s (pc' := 32) (st' := [.ref 285, .int (39 * ((S 285 14) - 1)), .ref 294]) rfl rfl rfl rfl ?_
    refine ax_get rfl (hh_285 _ _ _) rfl rfl rfl ?_
    show am_ex (d + 8) 169 35 [some (.ref 285)] [.ref 293, .int (39 * ((S 285 14) - 1)), .ref 294] (am_hh X (am_u S 285 14 ((S 285 14) - 1)) L) _
    refine ax_s (pc' := 36) (st' := [.int 0, .ref 293, .int (39 * ((S 285 14) - 1)), .ref 294]) rfl rfl rfl rfl ?_
    refine ax_s (pc' := 38) (st' := [.int 39, .int 0, .ref 293, .int (39 * ((S 285 14) - 1)), .ref 294]) rfl rfl rfl rfl ?_
    refine ax_call (vs := [.ref 294, .int (39 * ((S 285 14) - 1)), .ref 293, .int 0, .int 39]) (rr := []) rfl rfl rfl ?_
    refine mt_bring 294 293 936 39 (39 * (k - 1)) 0 39 (fun _ => rfl) (fun _ => rfl) (by decide) (by decide) (by decide) (by decide) (Or.inl (by decide)) (am_nm (x := 39) (y := (k - 1)) rfl (hk1 (by assumption))) rfl rfl (x1 c1) (by decide) ?_
    show am_ex (d + 8) 169 41 [some (.ref 285)] [] (am_hh X (am_uc (am_u S 285 14 ((S 285 14) - 1)) 293 (va_cpy (S 294) (S 293) (39 * (k - 1)) 0 39)) L) _
    refine ax_s (pc' := 42) (st' := [.ref 285]) rfl rfl rfl rfl ?_
    refine ax_get rfl (hh_285 _ _ _) rfl rfl rfl ?_
    show am_ex (d + 8) 169 45 [some (.ref 285)] [.int ((S 285 14) - 1)] (am_hh X (am_uc (am_u S 285 14 ((S 285 14) - 1)) 293 (va_cpy (S 294) (S 293) (39 * (k - 1)) 0 39)) L) _
    refine ax_r rfl rfl rfl ?_
    exact k1 c1
  · refine ax_s (pc' := 9) (st' := [.int (-1000002)]) rfl rfl rfl rfl ?_
    refine ax_r rfl rfl rfl ?_
    exact k2 c1
def g_k_image (S : Nat → Nat → Int32) (p : Int32) : Prop := (¬ (p < 0 ∨ 1 < p)) ∧ ¬ (S 20 4) ≤ 0
def eg_k_image (S : Nat → Nat → Int32) (p : Int32) : Int32 := (if p < 0 ∨ 1 < p then (-1000001) else (if (S 20 4) ≤ 0 then (-1000002) else 0))
theorem wg_k_image {d : Nat} {X : Nat × (Nat → Int32)} {S : Nat → Nat → Int32} {L : Nat → Int64} {p : Int32} {Q : Option Value → am_H → Prop}   (hb : ¬ g_k_image S p) (hQ : Q (some (.int (eg_k_image S p))) (am_hh X S L)) : am_mt (d + 8) 127 [.ref 5, .int p] (am_hh X S L) Q := by
  refine ax_in (ls := [some (.ref 5), some (.int p)]) rfl ?_
  refine ax_s (pc' := 1) (st' := [.int p]) rfl rfl rfl rfl ?_
  refine ax_s (pc' := 2) (st' := [.int 0, .int p]) rfl rfl rfl rfl ?_
  refine ax_s (pc' := 3) (st' := [.int 1, .int 0, .int p]) rfl rfl rfl rfl ?_
  refine ax_call (vs := [.int p, .int 0, .int 1]) (rr := []) rfl rfl rfl ?_
  refine ct_isOutside ?_
  show am_ex (d + 8) 127 6 [some (.ref 5), some (.int p)] [.int (bI (decide (p < 0 ∨ 1 < p)))] (am_hh X S L) _
  refine ax_pF rfl (fun c1 => ?_) (fun c1 => ?_)
  · refine ax_s (pc' := 13) (st' := [.ref 5]) rfl rfl rfl rfl ?_
    refine ax_get rfl (hh_5 _ _ _) rfl rfl rfl ?_
    show am_ex (d + 8) 127 16 [some (.ref 5), some (.int p)] [.ref 20] (am_hh X S L) _
    refine ax_call (vs := [.ref 20]) (rr := []) rfl rfl rfl ?_
    refine kw (am_hh_sub isW20 X S L) (am_hh_sub isW20 X S L).symm (fun _ => ct_stands (am_isW_k isW20 X S L)) ?_
    show am_ex (d + 8) 127 19 [some (.ref 5), some (.int p)] [.int (bI (decide (¬ (S 20 4) ≤ 0)))] (am_hh X S L) _
    refine ax_qT rfl (fun c2 => ?_) (fun c2 => ?_)
    · exact absurd ⟨c1, c2⟩ hb
    · refine ax_s (pc' := 24) (st' := [.int (-1000002)]) rfl rfl rfl rfl ?_
      refine ax_r rfl rfl rfl ?_
      unfold eg_k_image at hQ
      rw [if_neg c1, if_pos c2] at hQ
      exact hQ
  · refine ax_s (pc' := 11) (st' := [.int (-1000001)]) rfl rfl rfl rfl ?_
    refine ax_r rfl rfl rfl ?_
    unfold eg_k_image at hQ
    rw [if_pos c1] at hQ
    exact hQ
def g_m_image (S : Nat → Nat → Int32) (p : Int32) : Prop := (¬ p < 0 ∧ ¬ 1 < p) ∧ ¬ ((S 285 8) = 0)
def eg_m_image (S : Nat → Nat → Int32) (p : Int32) : Int32 := (if ¬ p < 0 ∧ ¬ 1 < p then (if (S 285 8) = 0 then (-1000002) else 0) else (-1000001))
theorem wg_m_image {d : Nat} {X : Nat × (Nat → Int32)} {S : Nat → Nat → Int32} {L : Nat → Int64} {p : Int32} {Q : Option Value → am_H → Prop}   (hb : ¬ g_m_image S p) (hQ : Q (some (.int (eg_m_image S p))) (am_hh X S L)) : am_mt (d + 8) 219 [.ref 285, .int p] (am_hh X S L) Q := by
  refine ax_in (ls := [some (.ref 285), some (.int p), none]) rfl ?_
  refine ax_s (pc' := 1) (st' := [.int p]) rfl rfl rfl rfl ?_
  refine ax_s (pc' := 2) (st' := [.int 0, .int p]) rfl rfl rfl rfl ?_
  refine ax_s (pc' := 3) (st' := [.int 1, .int 0, .int p]) rfl rfl rfl rfl ?_
  refine ax_call (vs := [.int p, .int 0, .int 1]) (rr := []) rfl rfl rfl ?_
  refine mt_in ?_
  show am_ex (d + 8) 219 6 [some (.ref 285), some (.int p), none] [.int (bI (decide (¬ p < 0 ∧ ¬ 1 < p)))] (am_hh X S L) _
  refine ax_pT rfl (fun c1 => ?_) (fun c1 => ?_)
  · refine ax_s (pc' := 13) (st' := [.ref 285]) rfl rfl rfl rfl ?_
    refine ax_call (vs := [.ref 285]) (rr := []) rfl rfl rfl ?_
    refine mt_isNone  ?_
    show am_ex (d + 8) 219 16 [some (.ref 285), some (.int p), none] [.int (bI (decide ((S 285 8) = 0)))] (am_hh X S L) _
    refine ax_pF rfl (fun c2 => ?_) (fun c2 => ?_)
    · exact absurd ⟨c1, c2⟩ hb
    · refine ax_s (pc' := 21) (st' := [.int (-1000002)]) rfl rfl rfl rfl ?_
      refine ax_r rfl rfl rfl ?_
      unfold eg_m_image at hQ
      rw [if_pos c1, if_pos c2] at hQ
      exact hQ
  · refine ax_s (pc' := 11) (st' := [.int (-1000001)]) rfl rfl rfl rfl ?_
    refine ax_r rfl rfl rfl ?_
    unfold eg_m_image at hQ
    rw [if_neg c1] at hQ
    exact hQ
theorem wv_k_image {d : Nat} {X : Nat × (Nat → Int32)} {S : Nat → Nat → Int32} {L : Nat → Int64} {j : Nat} {Q : Option Value → am_H → Prop}  (hg : (¬ ((nI j) < 0 ∨ 1 < (nI j))) ∧ ¬ (S 20 4) ≤ 0) (f1 : w_cl (am_sub S (258 + 9 * j))) (f2 : w_cl (am_sub S 20)) (x1 : j < 2) (k1 : Q (some (.int 1)) (am_hh X (am_ovl S (258 + 9 * j) (am_sub S 20)) L)) : am_mt (d + 8) 127 [.ref 5, .int (nI j)] (am_hh X S L) Q := by
  refine ax_in (ls := [some (.ref 5), some (.int (nI j))]) rfl ?_
  refine ax_s (pc' := 1) (st' := [.int (nI j)]) rfl rfl rfl rfl ?_
  refine ax_s (pc' := 2) (st' := [.int 0, .int (nI j)]) rfl rfl rfl rfl ?_
  refine ax_s (pc' := 3) (st' := [.int 1, .int 0, .int (nI j)]) rfl rfl rfl rfl ?_
  refine ax_call (vs := [.int (nI j), .int 0, .int 1]) (rr := []) rfl rfl rfl ?_
  refine ct_isOutside ?_
  show am_ex (d + 8) 127 6 [some (.ref 5), some (.int (nI j))] [.int (bI (decide ((nI j) < 0 ∨ 1 < (nI j))))] (am_hh X S L) _
  refine ax_pF rfl (fun c1 => ?_) (fun c1 => ?_)
  · refine ax_s (pc' := 13) (st' := [.ref 5]) rfl rfl rfl rfl ?_
    refine ax_get rfl (hh_5 _ _ _) rfl rfl rfl ?_
    show am_ex (d + 8) 127 16 [some (.ref 5), some (.int (nI j))] [.ref 20] (am_hh X S L) _
    refine ax_call (vs := [.ref 20]) (rr := []) rfl rfl rfl ?_
    refine kw (am_hh_sub isW20 X S L) (am_hh_sub isW20 X S L).symm (fun _ => ct_stands (am_isW_k isW20 X S L)) ?_
    show am_ex (d + 8) 127 19 [some (.ref 5), some (.int (nI j))] [.int (bI (decide (¬ (S 20 4) ≤ 0)))] (am_hh X S L) _
    refine ax_qT rfl (fun c2 => ?_) (fun c2 => ?_)
    · refine ax_s (pc' := 26) (st' := [.ref 5]) rfl rfl rfl rfl ?_
      refine ax_get rfl (hh_5 _ _ _) rfl rfl rfl ?_
      show am_ex (d + 8) 127 29 [some (.ref 5), some (.int (nI j))] [.ref 256] (am_hh X S L) _
      refine ax_s (pc' := 30) (st' := [.int (nI j), .ref 256]) rfl rfl rfl rfl ?_
      refine ax_s (pc' := 31) (st' := [.ref 5, .int (nI j), .ref 256]) rfl rfl rfl rfl ?_
      refine ax_get rfl (hh_5 _ _ _) rfl rfl rfl ?_
      show am_ex (d + 8) 127 34 [some (.ref 5), some (.int (nI j))] [.ref 20, .int (nI j), .ref 256] (am_hh X S L) _
      refine ax_call (vs := [.ref 256, .int (nI j), .ref 20]) (rr := []) rfl rfl rfl ?_
      refine ax_in (ls := [some (.ref 256), some (.int (nI j)), some (.ref 20)]) rfl ?_
      refine ax_s (pc' := 1) (st' := [.ref 256]) rfl rfl rfl rfl ?_
      refine ax_get rfl (hh_256 _ _ _) rfl rfl rfl ?_
      show am_ex (d + 7) 128 4 [some (.ref 256), some (.int (nI j)), some (.ref 20)] [.ref 257] (am_hh X S L) _
      refine ax_s (pc' := 5) (st' := [.int (nI j), .ref 257]) rfl rfl rfl rfl ?_
      refine ax_qld (j := j) (b := (258 + 9 * j)) rfl (hh_257 _ _ _) rfl (by decide) rfl x1 (by decide) (if_pos x1) ?_
      refine ax_s (pc' := 7) (st' := [.ref 20, .ref (258 + 9 * j)]) rfl rfl rfl rfl ?_
      refine ax_call (vs := [.ref (258 + 9 * j), .ref 20]) (rr := []) rfl rfl (am_arg_v (vs := [.ref (258 + 9 * j), .ref 20]) (rr := []) (by decide) rfl rfl rfl (Nat.le_of_ble_eq_true rfl) (Nat.le_of_ble_eq_true rfl) (by decide) rfl (isW_0 _ _ _ (isW_kept x1)) (isW_m _ _ _ (isW_kept x1)) rfl) ?_
      refine kt_takeFrom (isW_kept x1) isW20 (by omega) f1 f2 ?_
      show am_ex (d + 7) 128 10 [some (.ref 256), some (.int (nI j)), some (.ref 20)] [] (am_hh X (am_ovl S (258 + 9 * j) (am_sub S 20)) L) _
      refine ax_r rfl rfl rfl ?_
      show am_ex (d + 8) 127 37 [some (.ref 5), some (.int (nI j))] [] (am_hh X (am_ovl S (258 + 9 * j) (am_sub S 20)) L) _
      refine ax_s (pc' := 38) (st' := [.int 1]) rfl rfl rfl rfl ?_
      refine ax_r rfl rfl rfl ?_
      exact k1
    · refine ax_s (pc' := 24) (st' := [.int (-1000002)]) rfl rfl rfl rfl ?_
      refine ax_r rfl rfl rfl ?_
      first | exact absurd (hg.2) c2 | exact absurd c2 (hg.2) | exact absurd (hg.2) (ne_true_of_eq_false c2)
  · refine ax_s (pc' := 11) (st' := [.int (-1000001)]) rfl rfl rfl rfl ?_
    refine ax_r rfl rfl rfl ?_
    first | exact absurd (hg.1) c1 | exact absurd c1 (hg.1) | exact absurd (hg.1) (ne_true_of_eq_false c1)
theorem wv_m_image {d : Nat} {X : Nat × (Nat → Int32)} {S : Nat → Nat → Int32} {L : Nat → Int64} {j : Nat} {Q : Option Value → am_H → Prop}  (hg : (¬ (nI j) < 0 ∧ ¬ 1 < (nI j)) ∧ ¬ ((S 285 8) = 0)) (x1 : j < 2) (x2 : (59 * j) < 118) (x3 : ((59 * j) + 1) < 118) (x4 : ((59 * j) + 2) + 6 ≤ 118) (x5 : ((59 * j) + 8) + 6 ≤ 118) (x6 : ((59 * j) + 14) + 6 ≤ 118) (x7 : ((59 * j) + 20) + 39 ≤ 118) (k1 : Q (some (.int 1)) (am_hh X (am_uc (am_uc (am_uc (am_uc (am_u (am_u (am_u S 296 j 1) 295 (59 * j) (S 285 7)) 295 ((59 * j) + 1) (S 285 8)) 295 (va_cpy (S 290) ((am_u (am_u (am_u S 296 j 1) 295 (59 * j) (S 285 7)) 295 ((59 * j) + 1) (S 285 8)) 295) 0 ((59 * j) + 2) 6)) 295 (va_cpy (S 291) ((va_cpy (S 290) ((am_u (am_u (am_u S 296 j 1) 295 (59 * j) (S 285 7)) 295 ((59 * j) + 1) (S 285 8)) 295) 0 ((59 * j) + 2) 6)) 0 ((59 * j) + 8) 6)) 295 (va_cpy (S 292) ((va_cpy (S 291) ((va_cpy (S 290) ((am_u (am_u (am_u S 296 j 1) 295 (59 * j) (S 285 7)) 295 ((59 * j) + 1) (S 285 8)) 295) 0 ((59 * j) + 2) 6)) 0 ((59 * j) + 8) 6)) 0 ((59 * j) + 14) 6)) 295 (va_cpy (S 293) ((va_cpy (S 292) ((va_cpy (S 291) ((va_cpy (S 290) ((am_u (am_u (am_u S 296 j 1) 295 (59 * j) (S 285 7)) 295 ((59 * j) + 1) (S 285 8)) 295) 0 ((59 * j) + 2) 6)) 0 ((59 * j) + 8) 6)) 0 ((59 * j) + 14) 6)) 0 ((59 * j) + 20) 39)) L)) : am_mt (d + 8) 219 [.ref 285, .int (nI j)] (am_hh X S L) Q := by
  refine ax_in (ls := [some (.ref 285), some (.int (nI j)), none]) rfl ?_
  refine ax_s (pc' := 1) (st' := [.int (nI j)]) rfl rfl rfl rfl ?_
  refine ax_s (pc' := 2) (st' := [.int 0, .int (nI j)]) rfl rfl rfl rfl ?_
  refine ax_s (pc' := 3) (st' := [.int 1, .int 0, .int (nI j)]) rfl rfl rfl rfl ?_
  refine ax_call (vs := [.int (nI j), .int 0, .int 1]) (rr := []) rfl rfl rfl ?_
  refine mt_in ?_
  show am_ex (d + 8) 219 6 [some (.ref 285), some (.int (nI j)), none] [.int (bI (decide (¬ (nI j) < 0 ∧ ¬ 1 < (nI j))))] (am_hh X S L) _
  refine ax_pT rfl (fun c1 => ?_) (fun c1 => ?_)
  · refine ax_s (pc' := 13) (st' := [.ref 285]) rfl rfl rfl rfl ?_
    refine ax_call (vs := [.ref 285]) (rr := []) rfl rfl rfl ?_
    refine mt_isNone  ?_
    show am_ex (d + 8) 219 16 [some (.ref 285), some (.int (nI j)), none] [.int (bI (decide ((S 285 8) = 0)))] (am_hh X S L) _
    refine ax_pF rfl (fun c2 => ?_) (fun c2 => ?_)
    · refine ax_s (pc' := 24) (st' := [.int 59]) rfl rfl rfl rfl ?_
      refine ax_s (pc' := 25) (st' := [.int (nI j), .int 59]) rfl rfl rfl rfl ?_
      refine ax_s (pc' := 26) (st' := [.int (59 * (nI j))]) rfl rfl rfl rfl ?_
      refine ax_s (pc' := 27) (ls' := [some (.ref 285), some (.int (nI j)), some (.int (59 * (nI j)))]) (st' := []) rfl rfl rfl rfl ?_
      refine ax_s (pc' := 28) (st' := [.ref 285]) rfl rfl rfl rfl ?_
      refine ax_get rfl (hh_285 _ _ _) rfl rfl rfl ?_
      show am_ex (d + 8) 219 31 [some (.ref 285), some (.int (nI j)), some (.int (59 * (nI j)))] [.ref 296] (am_hh X S L) _
      refine ax_s (pc' := 32) (st' := [.int (nI j), .ref 296]) rfl rfl rfl rfl ?_
      refine ax_s (pc' := 33) (st' := [.int 1, .int (nI j), .ref 296]) rfl rfl rfl rfl ?_
      refine ax_bast (j := j) rfl (hh_296 _ _ _) rfl rfl x1 (by decide) rfl (am_hh_set _ _ _ 296 j _ rfl) ?_
      refine ax_s (pc' := 35) (st' := [.ref 285]) rfl rfl rfl rfl ?_
      refine ax_get rfl (hh_285 _ _ _) rfl rfl rfl ?_
      show am_ex (d + 8) 219 38 [some (.ref 285), some (.int (nI j)), some (.int (59 * (nI j)))] [.ref 295] (am_hh X (am_u S 296 j 1) L) _
      refine ax_s (pc' := 39) (st' := [.int (59 * (nI j)), .ref 295]) rfl rfl rfl rfl ?_
      refine ax_s (pc' := 40) (st' := [.ref 285, .int (59 * (nI j)), .ref 295]) rfl rfl rfl rfl ?_
      refine ax_get rfl (hh_285 _ _ _) rfl rfl rfl ?_
      show am_ex (d + 8) 219 43 [some (.ref 285), some (.int (nI j)), some (.int (59 * (nI j)))] [.int (S 285 7), .int (59 * (nI j)), .ref 295] (am_hh X (am_u S 296 j 1) L) _
      refine ax_ast (j := (59 * j)) rfl (hh_295 _ _ _) rfl (am_nm (x := 59) (y := j) rfl rfl) x2 (by decide) (am_hh_set _ _ _ 295 (59 * j) _ rfl) ?_
      refine ax_s (pc' := 45) (st' := [.ref 285]) rfl rfl rfl rfl ?_
      refine ax_get rfl (hh_285 _ _ _) rfl rfl rfl ?_
      show am_ex (d + 8) 219 48 [some (.ref 285), some (.int (nI j)), some (.int (59 * (nI j)))] [.ref 295] (am_hh X (am_u (am_u S 296 j 1) 295 (59 * j) (S 285 7)) L) _
      refine ax_s (pc' := 49) (st' := [.int (59 * (nI j)), .ref 295]) rfl rfl rfl rfl ?_
      refine ax_s (pc' := 50) (st' := [.int 1, .int (59 * (nI j)), .ref 295]) rfl rfl rfl rfl ?_
      refine ax_s (pc' := 51) (st' := [.int ((59 * (nI j)) + 1), .ref 295]) rfl rfl rfl rfl ?_
      refine ax_s (pc' := 52) (st' := [.ref 285, .int ((59 * (nI j)) + 1), .ref 295]) rfl rfl rfl rfl ?_
      refine ax_get rfl (hh_285 _ _ _) rfl rfl rfl ?_
      show am_ex (d + 8) 219 55 [some (.ref 285), some (.int (nI j)), some (.int (59 * (nI j)))] [.int (S 285 8), .int ((59 * (nI j)) + 1), .ref 295] (am_hh X (am_u (am_u S 296 j 1) 295 (59 * j) (S 285 7)) L) _
      refine ax_ast (j := ((59 * j) + 1)) rfl (hh_295 _ _ _) rfl (am_na (x := (59 * j)) (y := 1) (am_nm (x := 59) (y := j) rfl rfl) rfl) x3 (by decide) (am_hh_set _ _ _ 295 ((59 * j) + 1) _ rfl) ?_
      refine ax_s (pc' := 57) (st' := [.ref 285]) rfl rfl rfl rfl ?_
      refine ax_get rfl (hh_285 _ _ _) rfl rfl rfl ?_
      show am_ex (d + 8) 219 60 [some (.ref 285), some (.int (nI j)), some (.int (59 * (nI j)))] [.ref 290] (am_hh X (am_u (am_u (am_u S 296 j 1) 295 (59 * j) (S 285 7)) 295 ((59 * j) + 1) (S 285 8)) L) _
      refine ax_s (pc' := 61) (st' := [.int 0, .ref 290]) rfl rfl rfl rfl ?_
      refine ax_s (pc' := 62) (st' := [.ref 285, .int 0, .ref 290]) rfl rfl rfl rfl ?_
      refine ax_get rfl (hh_285 _ _ _) rfl rfl rfl ?_
      show am_ex (d + 8) 219 65 [some (.ref 285), some (.int (nI j)), some (.int (59 * (nI j)))] [.ref 295, .int 0, .ref 290] (am_hh X (am_u (am_u (am_u S 296 j 1) 295 (59 * j) (S 285 7)) 295 ((59 * j) + 1) (S 285 8)) L) _
      refine ax_s (pc' := 66) (st' := [.int (59 * (nI j)), .ref 295, .int 0, .ref 290]) rfl rfl rfl rfl ?_
      refine ax_s (pc' := 67) (st' := [.int 2, .int (59 * (nI j)), .ref 295, .int 0, .ref 290]) rfl rfl rfl rfl ?_
      refine ax_s (pc' := 68) (st' := [.int ((59 * (nI j)) + 2), .ref 295, .int 0, .ref 290]) rfl rfl rfl rfl ?_
      refine ax_s (pc' := 70) (st' := [.int 6, .int ((59 * (nI j)) + 2), .ref 295, .int 0, .ref 290]) rfl rfl rfl rfl ?_
      refine ax_call (vs := [.ref 290, .int 0, .ref 295, .int ((59 * (nI j)) + 2), .int 6]) (rr := []) rfl rfl rfl ?_
      refine mt_bring 290 295 6 118 0 ((59 * j) + 2) 6 (fun _ => rfl) (fun _ => rfl) (by decide) (by decide) (by decide) (by decide) (Or.inl (by decide)) rfl (am_na (x := (59 * j)) (y := 2) (am_nm (x := 59) (y := j) rfl rfl) rfl) rfl (by decide) x4 ?_
      show am_ex (d + 8) 219 73 [some (.ref 285), some (.int (nI j)), some (.int (59 * (nI j)))] [] (am_hh X (am_uc (am_u (am_u (am_u S 296 j 1) 295 (59 * j) (S 285 7)) 295 ((59 * j) + 1) (S 285 8)) 295 (va_cpy (S 290) ((am_u (am_u (am_u S 296 j 1) 295 (59 * j) (S 285 7)) 295 ((59 * j) + 1) (S 285 8)) 295) 0 ((59 * j) + 2) 6)) L) _
      refine ax_s (pc' := 74) (st' := [.ref 285]) rfl rfl rfl rfl ?_
      refine ax_get rfl (hh_285 _ _ _) rfl rfl rfl ?_
      show am_ex (d + 8) 219 77 [some (.ref 285), some (.int (nI j)), some (.int (59 * (nI j)))] [.ref 291] (am_hh X (am_uc (am_u (am_u (am_u S 296 j 1) 295 (59 * j) (S 285 7)) 295 ((59 * j) + 1) (S 285 8)) 295 (va_cpy (S 290) ((am_u (am_u (am_u S 296 j 1) 295 (59 * j) (S 285 7)) 295 ((59 * j) + 1) (S 285 8)) 295) 0 ((59 * j) + 2) 6)) L) _
      refine ax_s (pc' := 78) (st' := [.int 0, .ref 291]) rfl rfl rfl rfl ?_
      refine ax_s (pc' := 79) (st' := [.ref 285, .int 0, .ref 291]) rfl rfl rfl rfl ?_
      refine ax_get rfl (hh_285 _ _ _) rfl rfl rfl ?_
      show am_ex (d + 8) 219 82 [some (.ref 285), some (.int (nI j)), some (.int (59 * (nI j)))] [.ref 295, .int 0, .ref 291] (am_hh X (am_uc (am_u (am_u (am_u S 296 j 1) 295 (59 * j) (S 285 7)) 295 ((59 * j) + 1) (S 285 8)) 295 (va_cpy (S 290) ((am_u (am_u (am_u S 296 j 1) 295 (59 * j) (S 285 7)) 295 ((59 * j) + 1) (S 285 8)) 295) 0 ((59 * j) + 2) 6)) L) _
      refine ax_s (pc' := 83) (st' := [.int (59 * (nI j)), .ref 295, .int 0, .ref 291]) rfl rfl rfl rfl ?_
      refine ax_s (pc' := 85) (st' := [.int 8, .int (59 * (nI j)), .ref 295, .int 0, .ref 291]) rfl rfl rfl rfl ?_
      refine ax_s (pc' := 86) (st' := [.int ((59 * (nI j)) + 8), .ref 295, .int 0, .ref 291]) rfl rfl rfl rfl ?_
      refine ax_s (pc' := 88) (st' := [.int 6, .int ((59 * (nI j)) + 8), .ref 295, .int 0, .ref 291]) rfl rfl rfl rfl ?_
      refine ax_call (vs := [.ref 291, .int 0, .ref 295, .int ((59 * (nI j)) + 8), .int 6]) (rr := []) rfl rfl rfl ?_
      refine mt_bring 291 295 6 118 0 ((59 * j) + 8) 6 (fun _ => rfl) (fun _ => rfl) (by decide) (by decide) (by decide) (by decide) (Or.inl (by decide)) rfl (am_na (x := (59 * j)) (y := 8) (am_nm (x := 59) (y := j) rfl rfl) rfl) rfl (by decide) x5 ?_
      show am_ex (d + 8) 219 91 [some (.ref 285), some (.int (nI j)), some (.int (59 * (nI j)))] [] (am_hh X (am_uc (am_uc (am_u (am_u (am_u S 296 j 1) 295 (59 * j) (S 285 7)) 295 ((59 * j) + 1) (S 285 8)) 295 (va_cpy (S 290) ((am_u (am_u (am_u S 296 j 1) 295 (59 * j) (S 285 7)) 295 ((59 * j) + 1) (S 285 8)) 295) 0 ((59 * j) + 2) 6)) 295 (va_cpy (S 291) ((va_cpy (S 290) ((am_u (am_u (am_u S 296 j 1) 295 (59 * j) (S 285 7)) 295 ((59 * j) + 1) (S 285 8)) 295) 0 ((59 * j) + 2) 6)) 0 ((59 * j) + 8) 6)) L) _
      refine ax_s (pc' := 92) (st' := [.ref 285]) rfl rfl rfl rfl ?_
      refine ax_get rfl (hh_285 _ _ _) rfl rfl rfl ?_
      show am_ex (d + 8) 219 95 [some (.ref 285), some (.int (nI j)), some (.int (59 * (nI j)))] [.ref 292] (am_hh X (am_uc (am_uc (am_u (am_u (am_u S 296 j 1) 295 (59 * j) (S 285 7)) 295 ((59 * j) + 1) (S 285 8)) 295 (va_cpy (S 290) ((am_u (am_u (am_u S 296 j 1) 295 (59 * j) (S 285 7)) 295 ((59 * j) + 1) (S 285 8)) 295) 0 ((59 * j) + 2) 6)) 295 (va_cpy (S 291) ((va_cpy (S 290) ((am_u (am_u (am_u S 296 j 1) 295 (59 * j) (S 285 7)) 295 ((59 * j) + 1) (S 285 8)) 295) 0 ((59 * j) + 2) 6)) 0 ((59 * j) + 8) 6)) L) _
      refine ax_s (pc' := 96) (st' := [.int 0, .ref 292]) rfl rfl rfl rfl ?_
      refine ax_s (pc' := 97) (st' := [.ref 285, .int 0, .ref 292]) rfl rfl rfl rfl ?_
      refine ax_get rfl (hh_285 _ _ _) rfl rfl rfl ?_
      show am_ex (d + 8) 219 100 [some (.ref 285), some (.int (nI j)), some (.int (59 * (nI j)))] [.ref 295, .int 0, .ref 292] (am_hh X (am_uc (am_uc (am_u (am_u (am_u S 296 j 1) 295 (59 * j) (S 285 7)) 295 ((59 * j) + 1) (S 285 8)) 295 (va_cpy (S 290) ((am_u (am_u (am_u S 296 j 1) 295 (59 * j) (S 285 7)) 295 ((59 * j) + 1) (S 285 8)) 295) 0 ((59 * j) + 2) 6)) 295 (va_cpy (S 291) ((va_cpy (S 290) ((am_u (am_u (am_u S 296 j 1) 295 (59 * j) (S 285 7)) 295 ((59 * j) + 1) (S 285 8)) 295) 0 ((59 * j) + 2) 6)) 0 ((59 * j) + 8) 6)) L) _
      refine ax_s (pc' := 101) (st' := [.int (59 * (nI j)), .ref 295, .int 0, .ref 292]) rfl rfl rfl rfl ?_
      refine ax_s (pc' := 103) (st' := [.int 14, .int (59 * (nI j)), .ref 295, .int 0, .ref 292]) rfl rfl rfl rfl ?_
      refine ax_s (pc' := 104) (st' := [.int ((59 * (nI j)) + 14), .ref 295, .int 0, .ref 292]) rfl rfl rfl rfl ?_
      refine ax_s (pc' := 106) (st' := [.int 6, .int ((59 * (nI j)) + 14), .ref 295, .int 0, .ref 292]) rfl rfl rfl rfl ?_
      refine ax_call (vs := [.ref 292, .int 0, .ref 295, .int ((59 * (nI j)) + 14), .int 6]) (rr := []) rfl rfl rfl ?_
      refine mt_bring 292 295 6 118 0 ((59 * j) + 14) 6 (fun _ => rfl) (fun _ => rfl) (by decide) (by decide) (by decide) (by decide) (Or.inl (by decide)) rfl (am_na (x := (59 * j)) (y := 14) (am_nm (x := 59) (y := j) rfl rfl) rfl) rfl (by decide) x6 ?_
      show am_ex (d + 8) 219 109 [some (.ref 285), some (.int (nI j)), some (.int (59 * (nI j)))] [] (am_hh X (am_uc (am_uc (am_uc (am_u (am_u (am_u S 296 j 1) 295 (59 * j) (S 285 7)) 295 ((59 * j) + 1) (S 285 8)) 295 (va_cpy (S 290) ((am_u (am_u (am_u S 296 j 1) 295 (59 * j) (S 285 7)) 295 ((59 * j) + 1) (S 285 8)) 295) 0 ((59 * j) + 2) 6)) 295 (va_cpy (S 291) ((va_cpy (S 290) ((am_u (am_u (am_u S 296 j 1) 295 (59 * j) (S 285 7)) 295 ((59 * j) + 1) (S 285 8)) 295) 0 ((59 * j) + 2) 6)) 0 ((59 * j) + 8) 6)) 295 (va_cpy (S 292) ((va_cpy (S 291) ((va_cpy (S 290) ((am_u (am_u (am_u S 296 j 1) 295 (59 * j) (S 285 7)) 295 ((59 * j) + 1) (S 285 8)) 295) 0 ((59 * j) + 2) 6)) 0 ((59 * j) + 8) 6)) 0 ((59 * j) + 14) 6)) L) _
      refine ax_s (pc' := 110) (st' := [.ref 285]) rfl rfl rfl rfl ?_
      refine ax_get rfl (hh_285 _ _ _) rfl rfl rfl ?_
      show am_ex (d + 8) 219 113 [some (.ref 285), some (.int (nI j)), some (.int (59 * (nI j)))] [.ref 293] (am_hh X (am_uc (am_uc (am_uc (am_u (am_u (am_u S 296 j 1) 295 (59 * j) (S 285 7)) 295 ((59 * j) + 1) (S 285 8)) 295 (va_cpy (S 290) ((am_u (am_u (am_u S 296 j 1) 295 (59 * j) (S 285 7)) 295 ((59 * j) + 1) (S 285 8)) 295) 0 ((59 * j) + 2) 6)) 295 (va_cpy (S 291) ((va_cpy (S 290) ((am_u (am_u (am_u S 296 j 1) 295 (59 * j) (S 285 7)) 295 ((59 * j) + 1) (S 285 8)) 295) 0 ((59 * j) + 2) 6)) 0 ((59 * j) + 8) 6)) 295 (va_cpy (S 292) ((va_cpy (S 291) ((va_cpy (S 290) ((am_u (am_u (am_u S 296 j 1) 295 (59 * j) (S 285 7)) 295 ((59 * j) + 1) (S 285 8)) 295) 0 ((59 * j) + 2) 6)) 0 ((59 * j) + 8) 6)) 0 ((59 * j) + 14) 6)) L) _
      refine ax_s (pc' := 114) (st' := [.int 0, .ref 293]) rfl rfl rfl rfl ?_
      refine ax_s (pc' := 115) (st' := [.ref 285, .int 0, .ref 293]) rfl rfl rfl rfl ?_
      refine ax_get rfl (hh_285 _ _ _) rfl rfl rfl ?_
      show am_ex (d + 8) 219 118 [some (.ref 285), some (.int (nI j)), some (.int (59 * (nI j)))] [.ref 295, .int 0, .ref 293] (am_hh X (am_uc (am_uc (am_uc (am_u (am_u (am_u S 296 j 1) 295 (59 * j) (S 285 7)) 295 ((59 * j) + 1) (S 285 8)) 295 (va_cpy (S 290) ((am_u (am_u (am_u S 296 j 1) 295 (59 * j) (S 285 7)) 295 ((59 * j) + 1) (S 285 8)) 295) 0 ((59 * j) + 2) 6)) 295 (va_cpy (S 291) ((va_cpy (S 290) ((am_u (am_u (am_u S 296 j 1) 295 (59 * j) (S 285 7)) 295 ((59 * j) + 1) (S 285 8)) 295) 0 ((59 * j) + 2) 6)) 0 ((59 * j) + 8) 6)) 295 (va_cpy (S 292) ((va_cpy (S 291) ((va_cpy (S 290) ((am_u (am_u (am_u S 296 j 1) 295 (59 * j) (S 285 7)) 295 ((59 * j) + 1) (S 285 8)) 295) 0 ((59 * j) + 2) 6)) 0 ((59 * j) + 8) 6)) 0 ((59 * j) + 14) 6)) L) _
      refine ax_s (pc' := 119) (st' := [.int (59 * (nI j)), .ref 295, .int 0, .ref 293]) rfl rfl rfl rfl ?_
      refine ax_s (pc' := 121) (st' := [.int 20, .int (59 * (nI j)), .ref 295, .int 0, .ref 293]) rfl rfl rfl rfl ?_
      refine ax_s (pc' := 122) (st' := [.int ((59 * (nI j)) + 20), .ref 295, .int 0, .ref 293]) rfl rfl rfl rfl ?_
      refine ax_s (pc' := 124) (st' := [.int 39, .int ((59 * (nI j)) + 20), .ref 295, .int 0, .ref 293]) rfl rfl rfl rfl ?_
      refine ax_call (vs := [.ref 293, .int 0, .ref 295, .int ((59 * (nI j)) + 20), .int 39]) (rr := []) rfl rfl rfl ?_
      refine mt_bring 293 295 39 118 0 ((59 * j) + 20) 39 (fun _ => rfl) (fun _ => rfl) (by decide) (by decide) (by decide) (by decide) (Or.inl (by decide)) rfl (am_na (x := (59 * j)) (y := 20) (am_nm (x := 59) (y := j) rfl rfl) rfl) rfl (by decide) x7 ?_
      show am_ex (d + 8) 219 127 [some (.ref 285), some (.int (nI j)), some (.int (59 * (nI j)))] [] (am_hh X (am_uc (am_uc (am_uc (am_uc (am_u (am_u (am_u S 296 j 1) 295 (59 * j) (S 285 7)) 295 ((59 * j) + 1) (S 285 8)) 295 (va_cpy (S 290) ((am_u (am_u (am_u S 296 j 1) 295 (59 * j) (S 285 7)) 295 ((59 * j) + 1) (S 285 8)) 295) 0 ((59 * j) + 2) 6)) 295 (va_cpy (S 291) ((va_cpy (S 290) ((am_u (am_u (am_u S 296 j 1) 295 (59 * j) (S 285 7)) 295 ((59 * j) + 1) (S 285 8)) 295) 0 ((59 * j) + 2) 6)) 0 ((59 * j) + 8) 6)) 295 (va_cpy (S 292) ((va_cpy (S 291) ((va_cpy (S 290) ((am_u (am_u (am_u S 296 j 1) 295 (59 * j) (S 285 7)) 295 ((59 * j) + 1) (S 285 8)) 295) 0 ((59 * j) + 2) 6)) 0 ((59 * j) + 8) 6)) 0 ((59 * j) + 14) 6)) 295 (va_cpy (S 293) ((va_cpy (S 292) ((va_cpy (S 291) ((va_cpy (S 290) ((am_u (am_u (am_u S 296 j 1) 295 (59 * j) (S 285 7)) 295 ((59 * j) + 1) (S 285 8)) 295) 0 ((59 * j) + 2) 6)) 0 ((59 * j) + 8) 6)) 0 ((59 * j) + 14) 6)) 0 ((59 * j) + 20) 39)) L) _
      refine ax_s (pc' := 128) (st' := [.int 1]) rfl rfl rfl rfl ?_
      refine ax_r rfl rfl rfl ?_
      exact k1
    · refine ax_s (pc' := 21) (st' := [.int (-1000002)]) rfl rfl rfl rfl ?_
      refine ax_r rfl rfl rfl ?_
      first | exact absurd (hg.2) c2 | exact absurd c2 (hg.2) | exact absurd (hg.2) (ne_true_of_eq_false c2)
  · refine ax_s (pc' := 11) (st' := [.int (-1000001)]) rfl rfl rfl rfl ?_
    refine ax_r rfl rfl rfl ?_
    first | exact absurd (hg.1) c1 | exact absurd c1 (hg.1) | exact absurd (hg.1) (ne_true_of_eq_false c1)
def g_k_restore (S : Nat → Nat → Int32) (p : Int32) : Prop := (¬ (p < 0 ∨ 1 < p)) ∧ ¬ (S ((258 + 9 * p.toNatClampNeg) + 0) 4) ≤ 0
def eg_k_restore (S : Nat → Nat → Int32) (p : Int32) : Int32 := (if p < 0 ∨ 1 < p then (-1000001) else (if (S ((258 + 9 * p.toNatClampNeg) + 0) 4) ≤ 0 then (-1000002) else 0))
theorem wg_k_restore {d : Nat} {X : Nat × (Nat → Int32)} {S : Nat → Nat → Int32} {L : Nat → Int64} {p : Int32} {Q : Option Value → am_H → Prop}  (x1 : ¬ (p < 0 ∨ 1 < p) → am_ix p 2 = true) (hb : ¬ g_k_restore S p) (hQ : Q (some (.int (eg_k_restore S p))) (am_hh X S L)) : am_mt (d + 8) 129 [.ref 5, .int p] (am_hh X S L) Q := by
  refine ax_in (ls := [some (.ref 5), some (.int p)]) rfl ?_
  refine ax_s (pc' := 1) (st' := [.int p]) rfl rfl rfl rfl ?_
  refine ax_s (pc' := 2) (st' := [.int 0, .int p]) rfl rfl rfl rfl ?_
  refine ax_s (pc' := 3) (st' := [.int 1, .int 0, .int p]) rfl rfl rfl rfl ?_
  refine ax_call (vs := [.int p, .int 0, .int 1]) (rr := []) rfl rfl rfl ?_
  refine ct_isOutside ?_
  show am_ex (d + 8) 129 6 [some (.ref 5), some (.int p)] [.int (bI (decide (p < 0 ∨ 1 < p)))] (am_hh X S L) _
  refine ax_pF rfl (fun c1 => ?_) (fun c1 => ?_)
  · refine ax_s (pc' := 13) (st' := [.ref 5]) rfl rfl rfl rfl ?_
    refine ax_get rfl (hh_5 _ _ _) rfl rfl rfl ?_
    show am_ex (d + 8) 129 16 [some (.ref 5), some (.int p)] [.ref 256] (am_hh X S L) _
    refine ax_s (pc' := 17) (st' := [.int p, .ref 256]) rfl rfl rfl rfl ?_
    refine ax_call (vs := [.ref 256, .int p]) (rr := []) rfl rfl rfl ?_
    refine ax_in (ls := [some (.ref 256), some (.int p)]) rfl ?_
    refine ax_s (pc' := 1) (st' := [.ref 256]) rfl rfl rfl rfl ?_
    refine ax_get rfl (hh_256 _ _ _) rfl rfl rfl ?_
    show am_ex (d + 7) 130 4 [some (.ref 256), some (.int p)] [.ref 257] (am_hh X S L) _
    refine ax_s (pc' := 5) (st' := [.int p, .ref 257]) rfl rfl rfl rfl ?_
    refine ax_qld' (b := (258 + 9 * p.toNatClampNeg)) rfl (hh_257 _ _ _) rfl (by decide) (x1 c1) (if_pos (am_ix_lt (x1 c1))) ?_
    refine ax_call (vs := [.ref (258 + 9 * p.toNatClampNeg)]) (rr := []) rfl rfl (am_arg_v (vs := [.ref (258 + 9 * p.toNatClampNeg)]) (rr := []) (by decide) rfl rfl rfl (Nat.le_of_ble_eq_true rfl) (Nat.le_of_ble_eq_true rfl) (by decide) rfl (isW_0 _ _ _ (isW_kept (am_ix_lt (x1 c1)))) (isW_m _ _ _ (isW_kept (am_ix_lt (x1 c1)))) rfl) ?_
    refine kw (am_hh_sub (isW_kept (am_ix_lt (x1 c1))) X S L) (am_hh_sub (isW_kept (am_ix_lt (x1 c1))) X S L).symm (fun _ => ct_stands (am_isW_k (isW_kept (am_ix_lt (x1 c1))) X S L)) ?_
    show am_ex (d + 7) 130 9 [some (.ref 256), some (.int p)] [.int (bI (decide (¬ (S ((258 + 9 * p.toNatClampNeg) + 0) 4) ≤ 0)))] (am_hh X S L) _
    refine ax_rb rfl rfl ?_
    show am_ex (d + 8) 129 20 [some (.ref 5), some (.int p)] [.int (bI (decide (¬ (S ((258 + 9 * p.toNatClampNeg) + 0) 4) ≤ 0)))] (am_hh X S L) _
    refine ax_qT rfl (fun c2 => ?_) (fun c2 => ?_)
    · exact absurd ⟨c1, c2⟩ hb
    · refine ax_s (pc' := 25) (st' := [.int (-1000002)]) rfl rfl rfl rfl ?_
      refine ax_r rfl rfl rfl ?_
      unfold eg_k_restore at hQ
      rw [if_neg c1, if_pos c2] at hQ
      exact hQ
  · refine ax_s (pc' := 11) (st' := [.int (-1000001)]) rfl rfl rfl rfl ?_
    refine ax_r rfl rfl rfl ?_
    unfold eg_k_restore at hQ
    rw [if_pos c1] at hQ
    exact hQ
def g_m_restore (S : Nat → Nat → Int32) (p : Int32) : Prop := (¬ p < 0 ∧ ¬ 1 < p) ∧ ¬ (S 296 (p).toNatClampNeg) = 0
def eg_m_restore (S : Nat → Nat → Int32) (p : Int32) : Int32 := (if ¬ p < 0 ∧ ¬ 1 < p then (if (S 296 (p).toNatClampNeg) = 0 then (-1000002) else 0) else (-1000001))
theorem wg_m_restore {d : Nat} {X : Nat × (Nat → Int32)} {S : Nat → Nat → Int32} {L : Nat → Int64} {p : Int32} {Q : Option Value → am_H → Prop}  (x1 : ¬ p < 0 ∧ ¬ 1 < p → am_ix p 2 = true) (hb : ¬ g_m_restore S p) (hQ : Q (some (.int (eg_m_restore S p))) (am_hh X S L)) : am_mt (d + 8) 220 [.ref 285, .int p] (am_hh X S L) Q := by
  refine ax_in (ls := [some (.ref 285), some (.int p), none]) rfl ?_
  refine ax_s (pc' := 1) (st' := [.int p]) rfl rfl rfl rfl ?_
  refine ax_s (pc' := 2) (st' := [.int 0, .int p]) rfl rfl rfl rfl ?_
  refine ax_s (pc' := 3) (st' := [.int 1, .int 0, .int p]) rfl rfl rfl rfl ?_
  refine ax_call (vs := [.int p, .int 0, .int 1]) (rr := []) rfl rfl rfl ?_
  refine mt_in ?_
  show am_ex (d + 8) 220 6 [some (.ref 285), some (.int p), none] [.int (bI (decide (¬ p < 0 ∧ ¬ 1 < p)))] (am_hh X S L) _
  refine ax_pT rfl (fun c1 => ?_) (fun c1 => ?_)
  · refine ax_s (pc' := 13) (st' := [.ref 285]) rfl rfl rfl rfl ?_
    refine ax_get rfl (hh_285 _ _ _) rfl rfl rfl ?_
    show am_ex (d + 8) 220 16 [some (.ref 285), some (.int p), none] [.ref 296] (am_hh X S L) _
    refine ax_s (pc' := 17) (st' := [.int p, .ref 296]) rfl rfl rfl rfl ?_
    refine ax_bald' (v := (S 296 (p).toNatClampNeg)) rfl (hh_296 _ _ _) rfl (x1 c1) rfl ?_
    refine ax_if_ne rfl (fun c2 => ?_) (fun c2 => ?_)
    · exact absurd ⟨c1, c2⟩ hb
    · refine ax_s (pc' := 23) (st' := [.int (-1000002)]) rfl rfl rfl rfl ?_
      refine ax_r rfl rfl rfl ?_
      unfold eg_m_restore at hQ
      rw [if_pos c1, if_pos c2] at hQ
      exact hQ
  · refine ax_s (pc' := 11) (st' := [.int (-1000001)]) rfl rfl rfl rfl ?_
    refine ax_r rfl rfl rfl ?_
    unfold eg_m_restore at hQ
    rw [if_neg c1] at hQ
    exact hQ
theorem wv_k_restore {d : Nat} {X : Nat × (Nat → Int32)} {S : Nat → Nat → Int32} {L : Nat → Int64} {j : Nat} {Q : Option Value → am_H → Prop}  (hg : (¬ ((nI j) < 0 ∨ 1 < (nI j))) ∧ ¬ (S ((258 + 9 * j) + 0) 4) ≤ 0) (f1 : w_cl (am_sub S 20)) (f2 : w_cl (am_sub S (258 + 9 * j))) (x1 : ¬ ((nI j) < 0 ∨ 1 < (nI j)) → j < 2) (x2 : j < 2) (k1 : Q (some (.int 1)) (am_hh X (am_u (am_u (am_ovl S 20 (am_sub S (258 + 9 * j))) 38 2 0) 277 3 0) L)) : am_mt (d + 8) 129 [.ref 5, .int (nI j)] (am_hh X S L) Q := by
  refine ax_in (ls := [some (.ref 5), some (.int (nI j))]) rfl ?_
  refine ax_s (pc' := 1) (st' := [.int (nI j)]) rfl rfl rfl rfl ?_
  refine ax_s (pc' := 2) (st' := [.int 0, .int (nI j)]) rfl rfl rfl rfl ?_
  refine ax_s (pc' := 3) (st' := [.int 1, .int 0, .int (nI j)]) rfl rfl rfl rfl ?_
  refine ax_call (vs := [.int (nI j), .int 0, .int 1]) (rr := []) rfl rfl rfl ?_
  refine ct_isOutside ?_
  show am_ex (d + 8) 129 6 [some (.ref 5), some (.int (nI j))] [.int (bI (decide ((nI j) < 0 ∨ 1 < (nI j))))] (am_hh X S L) _
  refine ax_pF rfl (fun c1 => ?_) (fun c1 => ?_)
  · refine ax_s (pc' := 13) (st' := [.ref 5]) rfl rfl rfl rfl ?_
    refine ax_get rfl (hh_5 _ _ _) rfl rfl rfl ?_
    show am_ex (d + 8) 129 16 [some (.ref 5), some (.int (nI j))] [.ref 256] (am_hh X S L) _
    refine ax_s (pc' := 17) (st' := [.int (nI j), .ref 256]) rfl rfl rfl rfl ?_
    refine ax_call (vs := [.ref 256, .int (nI j)]) (rr := []) rfl rfl rfl ?_
    refine ax_in (ls := [some (.ref 256), some (.int (nI j))]) rfl ?_
    refine ax_s (pc' := 1) (st' := [.ref 256]) rfl rfl rfl rfl ?_
    refine ax_get rfl (hh_256 _ _ _) rfl rfl rfl ?_
    show am_ex (d + 7) 130 4 [some (.ref 256), some (.int (nI j))] [.ref 257] (am_hh X S L) _
    refine ax_s (pc' := 5) (st' := [.int (nI j), .ref 257]) rfl rfl rfl rfl ?_
    refine ax_qld (j := j) (b := (258 + 9 * j)) rfl (hh_257 _ _ _) rfl (by decide) rfl (x1 c1) (by decide) (if_pos (x1 c1)) ?_
    refine ax_call (vs := [.ref (258 + 9 * j)]) (rr := []) rfl rfl (am_arg_v (vs := [.ref (258 + 9 * j)]) (rr := []) (by decide) rfl rfl rfl (Nat.le_of_ble_eq_true rfl) (Nat.le_of_ble_eq_true rfl) (by decide) rfl (isW_0 _ _ _ (isW_kept (x1 c1))) (isW_m _ _ _ (isW_kept (x1 c1))) rfl) ?_
    refine kw (am_hh_sub (isW_kept (x1 c1)) X S L) (am_hh_sub (isW_kept (x1 c1)) X S L).symm (fun _ => ct_stands (am_isW_k (isW_kept (x1 c1)) X S L)) ?_
    show am_ex (d + 7) 130 9 [some (.ref 256), some (.int (nI j))] [.int (bI (decide (¬ (S ((258 + 9 * j) + 0) 4) ≤ 0)))] (am_hh X S L) _
    refine ax_rb rfl rfl ?_
    show am_ex (d + 8) 129 20 [some (.ref 5), some (.int (nI j))] [.int (bI (decide (¬ (S ((258 + 9 * j) + 0) 4) ≤ 0)))] (am_hh X S L) _
    refine ax_qT rfl (fun c2 => ?_) (fun c2 => ?_)
    · refine ax_s (pc' := 27) (st' := [.ref 5]) rfl rfl rfl rfl ?_
      refine ax_get rfl (hh_5 _ _ _) rfl rfl rfl ?_
      show am_ex (d + 8) 129 30 [some (.ref 5), some (.int (nI j))] [.ref 256] (am_hh X S L) _
      refine ax_s (pc' := 31) (st' := [.int (nI j), .ref 256]) rfl rfl rfl rfl ?_
      refine ax_s (pc' := 32) (st' := [.ref 5, .int (nI j), .ref 256]) rfl rfl rfl rfl ?_
      refine ax_get rfl (hh_5 _ _ _) rfl rfl rfl ?_
      show am_ex (d + 8) 129 35 [some (.ref 5), some (.int (nI j))] [.ref 20, .int (nI j), .ref 256] (am_hh X S L) _
      refine ax_call (vs := [.ref 256, .int (nI j), .ref 20]) (rr := []) rfl rfl rfl ?_
      refine ax_in (ls := [some (.ref 256), some (.int (nI j)), some (.ref 20)]) rfl ?_
      refine ax_s (pc' := 1) (st' := [.ref 20]) rfl rfl rfl rfl ?_
      refine ax_s (pc' := 2) (st' := [.ref 256, .ref 20]) rfl rfl rfl rfl ?_
      refine ax_get rfl (hh_256 _ _ _) rfl rfl rfl ?_
      show am_ex (d + 7) 131 5 [some (.ref 256), some (.int (nI j)), some (.ref 20)] [.ref 257, .ref 20] (am_hh X S L) _
      refine ax_s (pc' := 6) (st' := [.int (nI j), .ref 257, .ref 20]) rfl rfl rfl rfl ?_
      refine ax_qld (j := j) (b := (258 + 9 * j)) rfl (hh_257 _ _ _) rfl (by decide) rfl x2 (by decide) (if_pos x2) ?_
      refine ax_call (vs := [.ref 20, .ref (258 + 9 * j)]) (rr := []) rfl rfl rfl ?_
      refine kt_takeFrom isW20 (isW_kept x2) (by omega) f1 f2 ?_
      show am_ex (d + 7) 131 10 [some (.ref 256), some (.int (nI j)), some (.ref 20)] [] (am_hh X (am_ovl S 20 (am_sub S (258 + 9 * j))) L) _
      refine ax_r rfl rfl rfl ?_
      show am_ex (d + 8) 129 38 [some (.ref 5), some (.int (nI j))] [] (am_hh X (am_ovl S 20 (am_sub S (258 + 9 * j))) L) _
      refine ax_s (pc' := 39) (st' := [.ref 5]) rfl rfl rfl rfl ?_
      refine ax_get rfl (hh_5 _ _ _) rfl rfl rfl ?_
      show am_ex (d + 8) 129 42 [some (.ref 5), some (.int (nI j))] [.ref 38] (am_hh X (am_ovl S 20 (am_sub S (258 + 9 * j))) L) _
      refine ax_call (vs := [.ref 38]) (rr := []) rfl rfl rfl ?_
      refine ax_in (ls := [some (.ref 38)]) rfl ?_
      refine ax_s (pc' := 1) (st' := [.ref 38]) rfl rfl rfl rfl ?_
      refine ax_s (pc' := 2) (st' := [.int 0, .ref 38]) rfl rfl rfl rfl ?_
      refine ax_put rfl (hh_38 _ _ _) rfl rfl (show 2 + 1 ≤ _ from Nat.le_of_ble_eq_true rfl) rfl (am_hh_set _ _ _ 38 2 _ rfl) ?_
      refine ax_r rfl rfl rfl ?_
      show am_ex (d + 8) 129 45 [some (.ref 5), some (.int (nI j))] [] (am_hh X (am_u (am_ovl S 20 (am_sub S (258 + 9 * j))) 38 2 0) L) _
      refine ax_s (pc' := 46) (st' := [.ref 5]) rfl rfl rfl rfl ?_
      refine ax_get rfl (hh_5 _ _ _) rfl rfl rfl ?_
      show am_ex (d + 8) 129 49 [some (.ref 5), some (.int (nI j))] [.ref 277] (am_hh X (am_u (am_ovl S 20 (am_sub S (258 + 9 * j))) 38 2 0) L) _
      refine ax_call (vs := [.ref 277]) (rr := []) rfl rfl rfl ?_
      refine ax_in (ls := [some (.ref 277)]) rfl ?_
      refine ax_s (pc' := 1) (st' := [.ref 277]) rfl rfl rfl rfl ?_
      refine ax_s (pc' := 2) (st' := [.int 0, .ref 277]) rfl rfl rfl rfl ?_
      refine ax_put rfl (hh_277 _ _ _) rfl rfl (show 3 + 1 ≤ _ from Nat.le_of_ble_eq_true rfl) rfl (am_hh_set _ _ _ 277 3 _ rfl) ?_
      refine ax_r rfl rfl rfl ?_
      show am_ex (d + 8) 129 52 [some (.ref 5), some (.int (nI j))] [] (am_hh X (am_u (am_u (am_ovl S 20 (am_sub S (258 + 9 * j))) 38 2 0) 277 3 0) L) _
      refine ax_s (pc' := 53) (st' := [.int 1]) rfl rfl rfl rfl ?_
      refine ax_r rfl rfl rfl ?_
      exact k1
    · refine ax_s (pc' := 25) (st' := [.int (-1000002)]) rfl rfl rfl rfl ?_
      refine ax_r rfl rfl rfl ?_
      first | exact absurd (hg.2) c2 | exact absurd c2 (hg.2) | exact absurd (hg.2) (ne_true_of_eq_false c2)
  · refine ax_s (pc' := 11) (st' := [.int (-1000001)]) rfl rfl rfl rfl ?_
    refine ax_r rfl rfl rfl ?_
    first | exact absurd (hg.1) c1 | exact absurd c1 (hg.1) | exact absurd (hg.1) (ne_true_of_eq_false c1)
theorem wv_m_restore {d : Nat} {X : Nat × (Nat → Int32)} {S : Nat → Nat → Int32} {L : Nat → Int64} {j : Nat} {Q : Option Value → am_H → Prop}  (hg : (¬ (nI j) < 0 ∧ ¬ 1 < (nI j)) ∧ ¬ (S 296 j) = 0) (x1 : ¬ (nI j) < 0 ∧ ¬ 1 < (nI j) → j < 2) (x2 : (59 * j) < 118) (x3 : ((59 * j) + 1) < 118) (x4 : ((59 * j) + 2) + 6 ≤ 118) (x5 : ((59 * j) + 8) + 6 ≤ 118) (x6 : ((59 * j) + 14) + 6 ≤ 118) (x7 : ((59 * j) + 20) + 39 ≤ 118) (k1 : Q (some (.int 1)) (am_hh X (am_u (am_uc (am_uc (am_uc (am_uc (am_u (am_u S 285 7 (S 295 (59 * j))) 285 8 (S 295 ((59 * j) + 1))) 290 (va_cpy (S 295) (S 290) ((59 * j) + 2) 0 6)) 291 (va_cpy (S 295) (S 291) ((59 * j) + 8) 0 6)) 292 (va_cpy (S 295) (S 292) ((59 * j) + 14) 0 6)) 293 (va_cpy (S 295) (S 293) ((59 * j) + 20) 0 39)) 285 14 0) L)) : am_mt (d + 8) 220 [.ref 285, .int (nI j)] (am_hh X S L) Q := by
  refine ax_in (ls := [some (.ref 285), some (.int (nI j)), none]) rfl ?_
  refine ax_s (pc' := 1) (st' := [.int (nI j)]) rfl rfl rfl rfl ?_
  refine ax_s (pc' := 2) (st' := [.int 0, .int (nI j)]) rfl rfl rfl rfl ?_
  refine ax_s (pc' := 3) (st' := [.int 1, .int 0, .int (nI j)]) rfl rfl rfl rfl ?_
  refine ax_call (vs := [.int (nI j), .int 0, .int 1]) (rr := []) rfl rfl rfl ?_
  refine mt_in ?_
  show am_ex (d + 8) 220 6 [some (.ref 285), some (.int (nI j)), none] [.int (bI (decide (¬ (nI j) < 0 ∧ ¬ 1 < (nI j))))] (am_hh X S L) _
  refine ax_pT rfl (fun c1 => ?_) (fun c1 => ?_)
  · refine ax_s (pc' := 13) (st' := [.ref 285]) rfl rfl rfl rfl ?_
    refine ax_get rfl (hh_285 _ _ _) rfl rfl rfl ?_
    show am_ex (d + 8) 220 16 [some (.ref 285), some (.int (nI j)), none] [.ref 296] (am_hh X S L) _
    refine ax_s (pc' := 17) (st' := [.int (nI j), .ref 296]) rfl rfl rfl rfl ?_
    refine ax_bald (j := j) (v := (S 296 j)) rfl (hh_296 _ _ _) rfl rfl (x1 c1) (by decide) rfl ?_
    refine ax_if_ne rfl (fun c2 => ?_) (fun c2 => ?_)
    · refine ax_s (pc' := 26) (st' := [.int 59]) rfl rfl rfl rfl ?_
      refine ax_s (pc' := 27) (st' := [.int (nI j), .int 59]) rfl rfl rfl rfl ?_
      refine ax_s (pc' := 28) (st' := [.int (59 * (nI j))]) rfl rfl rfl rfl ?_
      refine ax_s (pc' := 29) (ls' := [some (.ref 285), some (.int (nI j)), some (.int (59 * (nI j)))]) (st' := []) rfl rfl rfl rfl ?_
      refine ax_s (pc' := 30) (st' := [.ref 285]) rfl rfl rfl rfl ?_
      refine ax_s (pc' := 31) (st' := [.ref 285, .ref 285]) rfl rfl rfl rfl ?_
      refine ax_get rfl (hh_285 _ _ _) rfl rfl rfl ?_
      show am_ex (d + 8) 220 34 [some (.ref 285), some (.int (nI j)), some (.int (59 * (nI j)))] [.ref 295, .ref 285] (am_hh X S L) _
      refine ax_s (pc' := 35) (st' := [.int (59 * (nI j)), .ref 295, .ref 285]) rfl rfl rfl rfl ?_
      refine ax_ald (j := (59 * j)) (v := (S 295 (59 * j))) rfl (hh_295 _ _ _) rfl (am_nm (x := 59) (y := j) rfl rfl) x2 (by decide) rfl ?_
      refine ax_put rfl (hh_285 _ _ _) rfl rfl (show 7 + 1 ≤ _ from Nat.le_of_ble_eq_true rfl) rfl (am_hh_set _ _ _ 285 7 _ rfl) ?_
      refine ax_s (pc' := 40) (st' := [.ref 285]) rfl rfl rfl rfl ?_
      refine ax_s (pc' := 41) (st' := [.ref 285, .ref 285]) rfl rfl rfl rfl ?_
      refine ax_get rfl (hh_285 _ _ _) rfl rfl rfl ?_
      show am_ex (d + 8) 220 44 [some (.ref 285), some (.int (nI j)), some (.int (59 * (nI j)))] [.ref 295, .ref 285] (am_hh X (am_u S 285 7 (S 295 (59 * j))) L) _
      refine ax_s (pc' := 45) (st' := [.int (59 * (nI j)), .ref 295, .ref 285]) rfl rfl rfl rfl ?_
      refine ax_s (pc' := 46) (st' := [.int 1, .int (59 * (nI j)), .ref 295, .ref 285]) rfl rfl rfl rfl ?_
      refine ax_s (pc' := 47) (st' := [.int ((59 * (nI j)) + 1), .ref 295, .ref 285]) rfl rfl rfl rfl ?_
      refine ax_ald (j := ((59 * j) + 1)) (v := (S 295 ((59 * j) + 1))) rfl (hh_295 _ _ _) rfl (am_na (x := (59 * j)) (y := 1) (am_nm (x := 59) (y := j) rfl rfl) rfl) x3 (by decide) rfl ?_
      refine ax_put rfl (hh_285 _ _ _) rfl rfl (show 8 + 1 ≤ _ from Nat.le_of_ble_eq_true rfl) rfl (am_hh_set _ _ _ 285 8 _ rfl) ?_
      refine ax_s (pc' := 52) (st' := [.ref 285]) rfl rfl rfl rfl ?_
      refine ax_get rfl (hh_285 _ _ _) rfl rfl rfl ?_
      show am_ex (d + 8) 220 55 [some (.ref 285), some (.int (nI j)), some (.int (59 * (nI j)))] [.ref 295] (am_hh X (am_u (am_u S 285 7 (S 295 (59 * j))) 285 8 (S 295 ((59 * j) + 1))) L) _
      refine ax_s (pc' := 56) (st' := [.int (59 * (nI j)), .ref 295]) rfl rfl rfl rfl ?_
      refine ax_s (pc' := 57) (st' := [.int 2, .int (59 * (nI j)), .ref 295]) rfl rfl rfl rfl ?_
      refine ax_s (pc' := 58) (st' := [.int ((59 * (nI j)) + 2), .ref 295]) rfl rfl rfl rfl ?_
      refine ax_s (pc' := 59) (st' := [.ref 285, .int ((59 * (nI j)) + 2), .ref 295]) rfl rfl rfl rfl ?_
      refine ax_get rfl (hh_285 _ _ _) rfl rfl rfl ?_
      show am_ex (d + 8) 220 62 [some (.ref 285), some (.int (nI j)), some (.int (59 * (nI j)))] [.ref 290, .int ((59 * (nI j)) + 2), .ref 295] (am_hh X (am_u (am_u S 285 7 (S 295 (59 * j))) 285 8 (S 295 ((59 * j) + 1))) L) _
      refine ax_s (pc' := 63) (st' := [.int 0, .ref 290, .int ((59 * (nI j)) + 2), .ref 295]) rfl rfl rfl rfl ?_
      refine ax_s (pc' := 65) (st' := [.int 6, .int 0, .ref 290, .int ((59 * (nI j)) + 2), .ref 295]) rfl rfl rfl rfl ?_
      refine ax_call (vs := [.ref 295, .int ((59 * (nI j)) + 2), .ref 290, .int 0, .int 6]) (rr := []) rfl rfl rfl ?_
      refine mt_bring 295 290 118 6 ((59 * j) + 2) 0 6 (fun _ => rfl) (fun _ => rfl) (by decide) (by decide) (by decide) (by decide) (Or.inl (by decide)) (am_na (x := (59 * j)) (y := 2) (am_nm (x := 59) (y := j) rfl rfl) rfl) rfl rfl x4 (by decide) ?_
      show am_ex (d + 8) 220 68 [some (.ref 285), some (.int (nI j)), some (.int (59 * (nI j)))] [] (am_hh X (am_uc (am_u (am_u S 285 7 (S 295 (59 * j))) 285 8 (S 295 ((59 * j) + 1))) 290 (va_cpy (S 295) (S 290) ((59 * j) + 2) 0 6)) L) _
      refine ax_s (pc' := 69) (st' := [.ref 285]) rfl rfl rfl rfl ?_
      refine ax_get rfl (hh_285 _ _ _) rfl rfl rfl ?_
      show am_ex (d + 8) 220 72 [some (.ref 285), some (.int (nI j)), some (.int (59 * (nI j)))] [.ref 295] (am_hh X (am_uc (am_u (am_u S 285 7 (S 295 (59 * j))) 285 8 (S 295 ((59 * j) + 1))) 290 (va_cpy (S 295) (S 290) ((59 * j) + 2) 0 6)) L) _
      refine ax_s (pc' := 73) (st' := [.int (59 * (nI j)), .ref 295]) rfl rfl rfl rfl ?_
      refine ax_s (pc' := 75) (st' := [.int 8, .int (59 * (nI j)), .ref 295]) rfl rfl rfl rfl ?_
      refine ax_s (pc' := 76) (st' := [.int ((59 * (nI j)) + 8), .ref 295]) rfl rfl rfl rfl ?_
      refine ax_s (pc' := 77) (st' := [.ref 285, .int ((59 * (nI j)) + 8), .ref 295]) rfl rfl rfl rfl ?_
      refine ax_get rfl (hh_285 _ _ _) rfl rfl rfl ?_
      show am_ex (d + 8) 220 80 [some (.ref 285), some (.int (nI j)), some (.int (59 * (nI j)))] [.ref 291, .int ((59 * (nI j)) + 8), .ref 295] (am_hh X (am_uc (am_u (am_u S 285 7 (S 295 (59 * j))) 285 8 (S 295 ((59 * j) + 1))) 290 (va_cpy (S 295) (S 290) ((59 * j) + 2) 0 6)) L) _
      refine ax_s (pc' := 81) (st' := [.int 0, .ref 291, .int ((59 * (nI j)) + 8), .ref 295]) rfl rfl rfl rfl ?_
      refine ax_s (pc' := 83) (st' := [.int 6, .int 0, .ref 291, .int ((59 * (nI j)) + 8), .ref 295]) rfl rfl rfl rfl ?_
      refine ax_call (vs := [.ref 295, .int ((59 * (nI j)) + 8), .ref 291, .int 0, .int 6]) (rr := []) rfl rfl rfl ?_
      refine mt_bring 295 291 118 6 ((59 * j) + 8) 0 6 (fun _ => rfl) (fun _ => rfl) (by decide) (by decide) (by decide) (by decide) (Or.inl (by decide)) (am_na (x := (59 * j)) (y := 8) (am_nm (x := 59) (y := j) rfl rfl) rfl) rfl rfl x5 (by decide) ?_
      show am_ex (d + 8) 220 86 [some (.ref 285), some (.int (nI j)), some (.int (59 * (nI j)))] [] (am_hh X (am_uc (am_uc (am_u (am_u S 285 7 (S 295 (59 * j))) 285 8 (S 295 ((59 * j) + 1))) 290 (va_cpy (S 295) (S 290) ((59 * j) + 2) 0 6)) 291 (va_cpy (S 295) (S 291) ((59 * j) + 8) 0 6)) L) _
      refine ax_s (pc' := 87) (st' := [.ref 285]) rfl rfl rfl rfl ?_
      refine ax_get rfl (hh_285 _ _ _) rfl rfl rfl ?_
      show am_ex (d + 8) 220 90 [some (.ref 285), some (.int (nI j)), some (.int (59 * (nI j)))] [.ref 295] (am_hh X (am_uc (am_uc (am_u (am_u S 285 7 (S 295 (59 * j))) 285 8 (S 295 ((59 * j) + 1))) 290 (va_cpy (S 295) (S 290) ((59 * j) + 2) 0 6)) 291 (va_cpy (S 295) (S 291) ((59 * j) + 8) 0 6)) L) _
      refine ax_s (pc' := 91) (st' := [.int (59 * (nI j)), .ref 295]) rfl rfl rfl rfl ?_
      refine ax_s (pc' := 93) (st' := [.int 14, .int (59 * (nI j)), .ref 295]) rfl rfl rfl rfl ?_
      refine ax_s (pc' := 94) (st' := [.int ((59 * (nI j)) + 14), .ref 295]) rfl rfl rfl rfl ?_
      refine ax_s (pc' := 95) (st' := [.ref 285, .int ((59 * (nI j)) + 14), .ref 295]) rfl rfl rfl rfl ?_
      refine ax_get rfl (hh_285 _ _ _) rfl rfl rfl ?_
      show am_ex (d + 8) 220 98 [some (.ref 285), some (.int (nI j)), some (.int (59 * (nI j)))] [.ref 292, .int ((59 * (nI j)) + 14), .ref 295] (am_hh X (am_uc (am_uc (am_u (am_u S 285 7 (S 295 (59 * j))) 285 8 (S 295 ((59 * j) + 1))) 290 (va_cpy (S 295) (S 290) ((59 * j) + 2) 0 6)) 291 (va_cpy (S 295) (S 291) ((59 * j) + 8) 0 6)) L) _
      refine ax_s (pc' := 99) (st' := [.int 0, .ref 292, .int ((59 * (nI j)) + 14), .ref 295]) rfl rfl rfl rfl ?_
      refine ax_s (pc' := 101) (st' := [.int 6, .int 0, .ref 292, .int ((59 * (nI j)) + 14), .ref 295]) rfl rfl rfl rfl ?_
      refine ax_call (vs := [.ref 295, .int ((59 * (nI j)) + 14), .ref 292, .int 0, .int 6]) (rr := []) rfl rfl rfl ?_
      refine mt_bring 295 292 118 6 ((59 * j) + 14) 0 6 (fun _ => rfl) (fun _ => rfl) (by decide) (by decide) (by decide) (by decide) (Or.inl (by decide)) (am_na (x := (59 * j)) (y := 14) (am_nm (x := 59) (y := j) rfl rfl) rfl) rfl rfl x6 (by decide) ?_
      show am_ex (d + 8) 220 104 [some (.ref 285), some (.int (nI j)), some (.int (59 * (nI j)))] [] (am_hh X (am_uc (am_uc (am_uc (am_u (am_u S 285 7 (S 295 (59 * j))) 285 8 (S 295 ((59 * j) + 1))) 290 (va_cpy (S 295) (S 290) ((59 * j) + 2) 0 6)) 291 (va_cpy (S 295) (S 291) ((59 * j) + 8) 0 6)) 292 (va_cpy (S 295) (S 292) ((59 * j) + 14) 0 6)) L) _
      refine ax_s (pc' := 105) (st' := [.ref 285]) rfl rfl rfl rfl ?_
      refine ax_get rfl (hh_285 _ _ _) rfl rfl rfl ?_
      show am_ex (d + 8) 220 108 [some (.ref 285), some (.int (nI j)), some (.int (59 * (nI j)))] [.ref 295] (am_hh X (am_uc (am_uc (am_uc (am_u (am_u S 285 7 (S 295 (59 * j))) 285 8 (S 295 ((59 * j) + 1))) 290 (va_cpy (S 295) (S 290) ((59 * j) + 2) 0 6)) 291 (va_cpy (S 295) (S 291) ((59 * j) + 8) 0 6)) 292 (va_cpy (S 295) (S 292) ((59 * j) + 14) 0 6)) L) _
      refine ax_s (pc' := 109) (st' := [.int (59 * (nI j)), .ref 295]) rfl rfl rfl rfl ?_
      refine ax_s (pc' := 111) (st' := [.int 20, .int (59 * (nI j)), .ref 295]) rfl rfl rfl rfl ?_
      refine ax_s (pc' := 112) (st' := [.int ((59 * (nI j)) + 20), .ref 295]) rfl rfl rfl rfl ?_
      refine ax_s (pc' := 113) (st' := [.ref 285, .int ((59 * (nI j)) + 20), .ref 295]) rfl rfl rfl rfl ?_
      refine ax_get rfl (hh_285 _ _ _) rfl rfl rfl ?_
      show am_ex (d + 8) 220 116 [some (.ref 285), some (.int (nI j)), some (.int (59 * (nI j)))] [.ref 293, .int ((59 * (nI j)) + 20), .ref 295] (am_hh X (am_uc (am_uc (am_uc (am_u (am_u S 285 7 (S 295 (59 * j))) 285 8 (S 295 ((59 * j) + 1))) 290 (va_cpy (S 295) (S 290) ((59 * j) + 2) 0 6)) 291 (va_cpy (S 295) (S 291) ((59 * j) + 8) 0 6)) 292 (va_cpy (S 295) (S 292) ((59 * j) + 14) 0 6)) L) _
      refine ax_s (pc' := 117) (st' := [.int 0, .ref 293, .int ((59 * (nI j)) + 20), .ref 295]) rfl rfl rfl rfl ?_
      refine ax_s (pc' := 119) (st' := [.int 39, .int 0, .ref 293, .int ((59 * (nI j)) + 20), .ref 295]) rfl rfl rfl rfl ?_
      refine ax_call (vs := [.ref 295, .int ((59 * (nI j)) + 20), .ref 293, .int 0, .int 39]) (rr := []) rfl rfl rfl ?_
      refine mt_bring 295 293 118 39 ((59 * j) + 20) 0 39 (fun _ => rfl) (fun _ => rfl) (by decide) (by decide) (by decide) (by decide) (Or.inl (by decide)) (am_na (x := (59 * j)) (y := 20) (am_nm (x := 59) (y := j) rfl rfl) rfl) rfl rfl x7 (by decide) ?_
      show am_ex (d + 8) 220 122 [some (.ref 285), some (.int (nI j)), some (.int (59 * (nI j)))] [] (am_hh X (am_uc (am_uc (am_uc (am_uc (am_u (am_u S 285 7 (S 295 (59 * j))) 285 8 (S 295 ((59 * j) + 1))) 290 (va_cpy (S 295) (S 290) ((59 * j) + 2) 0 6)) 291 (va_cpy (S 295) (S 291) ((59 * j) + 8) 0 6)) 292 (va_cpy (S 295) (S 292) ((59 * j) + 14) 0 6)) 293 (va_cpy (S 295) (S 293) ((59 * j) + 20) 0 39)) L) _
      refine ax_s (pc' := 123) (st' := [.ref 285]) rfl rfl rfl rfl ?_
      refine ax_s (pc' := 124) (st' := [.int 0, .ref 285]) rfl rfl rfl rfl ?_
      refine ax_put rfl (hh_285 _ _ _) rfl rfl (show 14 + 1 ≤ _ from Nat.le_of_ble_eq_true rfl) rfl (am_hh_set _ _ _ 285 14 _ rfl) ?_
      refine ax_s (pc' := 128) (st' := [.int 1]) rfl rfl rfl rfl ?_
      refine ax_r rfl rfl rfl ?_
      exact k1
    · refine ax_s (pc' := 23) (st' := [.int (-1000002)]) rfl rfl rfl rfl ?_
      refine ax_r rfl rfl rfl ?_
      first | exact absurd (hg.2) c2 | exact absurd c2 (hg.2) | exact absurd (hg.2) (ne_true_of_eq_false c2)
  · refine ax_s (pc' := 11) (st' := [.int (-1000001)]) rfl rfl rfl rfl ?_
    refine ax_r rfl rfl rfl ?_
    first | exact absurd (hg.1) c1 | exact absurd c1 (hg.1) | exact absurd (hg.1) (ne_true_of_eq_false c1)
