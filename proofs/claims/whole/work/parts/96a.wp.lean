theorem wp_keep {d : Nat} {X : Nat × (Nat → Int32)} {S : Nat → Nat → Int32} {L : Nat → Int64} {m : Nat} {Q : Option Value → am_H → Prop} (hm : S 38 1 = nI m) (hc2 : w_cl (am_sub S (40 + 9 * m))) (hc0 : w_cl (am_sub S 20))  (x1 : m < 24) (k1 : 24 ≤ (((am_ovl S (40 + 9 * m) (am_sub S 20)) 38 1) + 1) → 24 ≤ ((am_ovl S (40 + 9 * m) (am_sub S 20)) 38 2) → Q none (am_hh X (am_u (am_u (am_ovl S (40 + 9 * m) (am_sub S 20)) 38 1 0) 277 3 0) L)) (k2 : 24 ≤ (((am_ovl S (40 + 9 * m) (am_sub S 20)) 38 1) + 1) → ¬ 24 ≤ ((am_ovl S (40 + 9 * m) (am_sub S 20)) 38 2) → Q none (am_hh X (am_u (am_u (am_u (am_ovl S (40 + 9 * m) (am_sub S 20)) 38 1 0) 38 2 (((am_ovl S (40 + 9 * m) (am_sub S 20)) 38 2) + 1)) 277 3 0) L)) (k3 : ¬ 24 ≤ (((am_ovl S (40 + 9 * m) (am_sub S 20)) 38 1) + 1) → 24 ≤ ((am_ovl S (40 + 9 * m) (am_sub S 20)) 38 2) → Q none (am_hh X (am_u (am_u (am_ovl S (40 + 9 * m) (am_sub S 20)) 38 1 (((am_ovl S (40 + 9 * m) (am_sub S 20)) 38 1) + 1)) 277 3 0) L)) (k4 : ¬ 24 ≤ (((am_ovl S (40 + 9 * m) (am_sub S 20)) 38 1) + 1) → ¬ 24 ≤ ((am_ovl S (40 + 9 * m) (am_sub S 20)) 38 2) → Q none (am_hh X (am_u (am_u (am_u (am_ovl S (40 + 9 * m) (am_sub S 20)) 38 1 (((am_ovl S (40 + 9 * m) (am_sub S 20)) 38 1) + 1)) 38 2 (((am_ovl S (40 + 9 * m) (am_sub S 20)) 38 2) + 1)) 277 3 0) L)) : am_mt (d + 4) 51 [.ref 5] (am_hh X S L) Q := by
  refine ax_in (ls := [some (.ref 5)]) rfl ?_
  refine ax_s (pc' := 1) (st' := [.ref 5]) rfl rfl rfl rfl ?_
  refine ax_get rfl (hh_5 _ _ _) rfl rfl rfl ?_
  show am_ex (d + 4) 51 4 [some (.ref 5)] [.ref 38] (am_hh X S L) _
  refine ax_s (pc' := 5) (st' := [.ref 5, .ref 38]) rfl rfl rfl rfl ?_
  refine ax_get rfl (hh_5 _ _ _) rfl rfl rfl ?_
  show am_ex (d + 4) 51 8 [some (.ref 5)] [.ref 20, .ref 38] (am_hh X S L) _
  refine ax_call (vs := [.ref 38, .ref 20]) (rr := []) rfl rfl rfl ?_
  refine ax_in (ls := [some (.ref 38), some (.ref 20)]) rfl ?_
  refine ax_s (pc' := 1) (st' := [.ref 38]) rfl rfl rfl rfl ?_
  refine ax_get rfl (hh_38 _ _ _) rfl rfl rfl ?_
  show am_ex (d + 3) 52 4 [some (.ref 38), some (.ref 20)] [.ref 39] (am_hh X S L) _
  refine ax_s (pc' := 5) (st' := [.ref 38, .ref 39]) rfl rfl rfl rfl ?_
  refine ax_get rfl (hh_38 _ _ _) rfl rfl rfl ?_
  show am_ex (d + 3) 52 8 [some (.ref 38), some (.ref 20)] [.int (S 38 1), .ref 39] (am_hh X S L) _
  refine ax_qld (j := m) (b := (40 + 9 * m)) rfl (hh_39 _ _ _) rfl (by decide) hm x1 (by decide) (if_pos x1) ?_
  refine ax_s (pc' := 10) (st' := [.ref 20, .ref (40 + 9 * m)]) rfl rfl rfl rfl ?_
  refine ax_call (vs := [.ref (40 + 9 * m), .ref 20]) (rr := []) rfl rfl (am_arg_v (vs := [.ref (40 + 9 * m), .ref 20]) (rr := []) (by decide) rfl rfl rfl (Nat.le_of_ble_eq_true rfl) (Nat.le_of_ble_eq_true rfl) (by decide) rfl (isW_0 _ _ _ (isW_past x1)) (isW_m _ _ _ (isW_past x1)) rfl) ?_
  refine kt_takeFrom (isW_past x1) isW20 (by omega) hc2 hc0 ?_
  show am_ex (d + 3) 52 13 [some (.ref 38), some (.ref 20)] [] (am_hh X (am_ovl S (40 + 9 * m) (am_sub S 20)) L) _
  refine ax_s (pc' := 14) (st' := [.ref 38]) rfl rfl rfl rfl ?_
  refine ax_s (pc' := 15) (st' := [.ref 38, .ref 38]) rfl rfl rfl rfl ?_
  refine ax_get rfl (hh_38 _ _ _) rfl rfl rfl ?_
  show am_ex (d + 3) 52 18 [some (.ref 38), some (.ref 20)] [.int ((am_ovl S (40 + 9 * m) (am_sub S 20)) 38 1), .ref 38] (am_hh X (am_ovl S (40 + 9 * m) (am_sub S 20)) L) _
  refine ax_s (pc' := 19) (st' := [.int 1, .int ((am_ovl S (40 + 9 * m) (am_sub S 20)) 38 1), .ref 38]) rfl rfl rfl rfl ?_
  refine ax_s (pc' := 20) (st' := [.int (((am_ovl S (40 + 9 * m) (am_sub S 20)) 38 1) + 1), .ref 38]) rfl rfl rfl rfl ?_
  refine ax_s (pc' := 22) (st' := [.int 24, .int (((am_ovl S (40 + 9 * m) (am_sub S 20)) 38 1) + 1), .ref 38]) rfl rfl rfl rfl ?_
  refine ax_cmp_ge rfl (fun c1 => ?_) (fun c1 => ?_)
  · refine ax_s (pc' := 35) (st' := [.int 0, .ref 38]) rfl rfl rfl rfl ?_
    refine ax_put rfl (hh_38 _ _ _) rfl rfl (show 1 + 1 ≤ _ from Nat.le_of_ble_eq_true rfl) rfl (am_hh_set _ _ _ 38 1 _ rfl) ?_
    refine ax_s (pc' := 39) (st' := [.ref 38]) rfl rfl rfl rfl ?_
    refine ax_get rfl (hh_38 _ _ _) rfl rfl rfl ?_
    show am_ex (d + 3) 52 42 [some (.ref 38), some (.ref 20)] [.int ((am_ovl S (40 + 9 * m) (am_sub S 20)) 38 2)] (am_hh X (am_u (am_ovl S (40 + 9 * m) (am_sub S 20)) 38 1 0) L) _
    refine ax_s (pc' := 44) (st' := [.int 24, .int ((am_ovl S (40 + 9 * m) (am_sub S 20)) 38 2)]) rfl rfl rfl rfl ?_
    refine ax_cmp_ge rfl (fun c2 => ?_) (fun c2 => ?_)
    · refine ax_r rfl rfl rfl ?_
      show am_ex (d + 4) 51 11 [some (.ref 5)] [] (am_hh X (am_u (am_ovl S (40 + 9 * m) (am_sub S 20)) 38 1 0) L) _
      refine ax_s (pc' := 12) (st' := [.ref 5]) rfl rfl rfl rfl ?_
      refine ax_get rfl (hh_5 _ _ _) rfl rfl rfl ?_
      show am_ex (d + 4) 51 15 [some (.ref 5)] [.ref 277] (am_hh X (am_u (am_ovl S (40 + 9 * m) (am_sub S 20)) 38 1 0) L) _
      refine ax_call (vs := [.ref 277]) (rr := []) rfl rfl rfl ?_
      refine ax_in (ls := [some (.ref 277)]) rfl ?_
      refine ax_s (pc' := 1) (st' := [.ref 277]) rfl rfl rfl rfl ?_
      refine ax_s (pc' := 2) (st' := [.int 0, .ref 277]) rfl rfl rfl rfl ?_
      refine ax_put rfl (hh_277 _ _ _) rfl rfl (show 3 + 1 ≤ _ from Nat.le_of_ble_eq_true rfl) rfl (am_hh_set _ _ _ 277 3 _ rfl) ?_
      refine ax_r rfl rfl rfl ?_
      show am_ex (d + 4) 51 18 [some (.ref 5)] [] (am_hh X (am_u (am_u (am_ovl S (40 + 9 * m) (am_sub S 20)) 38 1 0) 277 3 0) L) _
      refine ax_r rfl rfl rfl ?_
      exact k1 c1 c2
    · refine ax_s (pc' := 48) (st' := [.ref 38]) rfl rfl rfl rfl ?_
      refine ax_s (pc' := 49) (st' := [.ref 38, .ref 38]) rfl rfl rfl rfl ?_
      refine ax_get rfl (hh_38 _ _ _) rfl rfl rfl ?_
      show am_ex (d + 3) 52 52 [some (.ref 38), some (.ref 20)] [.int ((am_ovl S (40 + 9 * m) (am_sub S 20)) 38 2), .ref 38] (am_hh X (am_u (am_ovl S (40 + 9 * m) (am_sub S 20)) 38 1 0) L) _
      refine ax_s (pc' := 53) (st' := [.int 1, .int ((am_ovl S (40 + 9 * m) (am_sub S 20)) 38 2), .ref 38]) rfl rfl rfl rfl ?_
      refine ax_s (pc' := 54) (st' := [.int (((am_ovl S (40 + 9 * m) (am_sub S 20)) 38 2) + 1), .ref 38]) rfl rfl rfl rfl ?_
      refine ax_put rfl (hh_38 _ _ _) rfl rfl (show 2 + 1 ≤ _ from Nat.le_of_ble_eq_true rfl) rfl (am_hh_set _ _ _ 38 2 _ rfl) ?_
      refine ax_r rfl rfl rfl ?_
      show am_ex (d + 4) 51 11 [some (.ref 5)] [] (am_hh X (am_u (am_u (am_ovl S (40 + 9 * m) (am_sub S 20)) 38 1 0) 38 2 (((am_ovl S (40 + 9 * m) (am_sub S 20)) 38 2) + 1)) L) _
      refine ax_s (pc' := 12) (st' := [.ref 5]) rfl rfl rfl rfl ?_
      refine ax_get rfl (hh_5 _ _ _) rfl rfl rfl ?_
      show am_ex (d + 4) 51 15 [some (.ref 5)] [.ref 277] (am_hh X (am_u (am_u (am_ovl S (40 + 9 * m) (am_sub S 20)) 38 1 0) 38 2 (((am_ovl S (40 + 9 * m) (am_sub S 20)) 38 2) + 1)) L) _
      refine ax_call (vs := [.ref 277]) (rr := []) rfl rfl rfl ?_
      refine ax_in (ls := [some (.ref 277)]) rfl ?_
      refine ax_s (pc' := 1) (st' := [.ref 277]) rfl rfl rfl rfl ?_
      refine ax_s (pc' := 2) (st' := [.int 0, .ref 277]) rfl rfl rfl rfl ?_
      refine ax_put rfl (hh_277 _ _ _) rfl rfl (show 3 + 1 ≤ _ from Nat.le_of_ble_eq_true rfl) rfl (am_hh_set _ _ _ 277 3 _ rfl) ?_
      refine ax_r rfl rfl rfl ?_
      show am_ex (d + 4) 51 18 [some (.ref 5)] [] (am_hh X (am_u (am_u (am_u (am_ovl S (40 + 9 * m) (am_sub S 20)) 38 1 0) 38 2 (((am_ovl S (40 + 9 * m) (am_sub S 20)) 38 2) + 1)) 277 3 0) L) _
      refine ax_r rfl rfl rfl ?_
      exact k2 c1 c2
  · refine ax_s (pc' := 26) (st' := [.ref 38, .ref 38]) rfl rfl rfl rfl ?_
    refine ax_get rfl (hh_38 _ _ _) rfl rfl rfl ?_
    show am_ex (d + 3) 52 29 [some (.ref 38), some (.ref 20)] [.int ((am_ovl S (40 + 9 * m) (am_sub S 20)) 38 1), .ref 38] (am_hh X (am_ovl S (40 + 9 * m) (am_sub S 20)) L) _
    refine ax_s (pc' := 30) (st' := [.int 1, .int ((am_ovl S (40 + 9 * m) (am_sub S 20)) 38 1), .ref 38]) rfl rfl rfl rfl ?_
    refine ax_s (pc' := 31) (st' := [.int (((am_ovl S (40 + 9 * m) (am_sub S 20)) 38 1) + 1), .ref 38]) rfl rfl rfl rfl ?_
    refine ax_s (pc' := 35) (st' := [.int (((am_ovl S (40 + 9 * m) (am_sub S 20)) 38 1) + 1), .ref 38]) rfl rfl rfl rfl ?_
    refine ax_put rfl (hh_38 _ _ _) rfl rfl (show 1 + 1 ≤ _ from Nat.le_of_ble_eq_true rfl) rfl (am_hh_set _ _ _ 38 1 _ rfl) ?_
    refine ax_s (pc' := 39) (st' := [.ref 38]) rfl rfl rfl rfl ?_
    refine ax_get rfl (hh_38 _ _ _) rfl rfl rfl ?_
    show am_ex (d + 3) 52 42 [some (.ref 38), some (.ref 20)] [.int ((am_ovl S (40 + 9 * m) (am_sub S 20)) 38 2)] (am_hh X (am_u (am_ovl S (40 + 9 * m) (am_sub S 20)) 38 1 (((am_ovl S (40 + 9 * m) (am_sub S 20)) 38 1) + 1)) L) _
    refine ax_s (pc' := 44) (st' := [.int 24, .int ((am_ovl S (40 + 9 * m) (am_sub S 20)) 38 2)]) rfl rfl rfl rfl ?_
    refine ax_cmp_ge rfl (fun c3 => ?_) (fun c3 => ?_)
    · refine ax_r rfl rfl rfl ?_
      show am_ex (d + 4) 51 11 [some (.ref 5)] [] (am_hh X (am_u (am_ovl S (40 + 9 * m) (am_sub S 20)) 38 1 (((am_ovl S (40 + 9 * m) (am_sub S 20)) 38 1) + 1)) L) _
      refine ax_s (pc' := 12) (st' := [.ref 5]) rfl rfl rfl rfl ?_
      refine ax_get rfl (hh_5 _ _ _) rfl rfl rfl ?_
      show am_ex (d + 4) 51 15 [some (.ref 5)] [.ref 277] (am_hh X (am_u (am_ovl S (40 + 9 * m) (am_sub S 20)) 38 1 (((am_ovl S (40 + 9 * m) (am_sub S 20)) 38 1) + 1)) L) _
      refine ax_call (vs := [.ref 277]) (rr := []) rfl rfl rfl ?_
      refine ax_in (ls := [some (.ref 277)]) rfl ?_
      refine ax_s (pc' := 1) (st' := [.ref 277]) rfl rfl rfl rfl ?_
      refine ax_s (pc' := 2) (st' := [.int 0, .ref 277]) rfl rfl rfl rfl ?_
      refine ax_put rfl (hh_277 _ _ _) rfl rfl (show 3 + 1 ≤ _ from Nat.le_of_ble_eq_true rfl) rfl (am_hh_set _ _ _ 277 3 _ rfl) ?_
      refine ax_r rfl rfl rfl ?_
      show am_ex (d + 4) 51 18 [some (.ref 5)] [] (am_hh X (am_u (am_u (am_ovl S (40 + 9 * m) (am_sub S 20)) 38 1 (((am_ovl S (40 + 9 * m) (am_sub S 20)) 38 1) + 1)) 277 3 0) L) _
      refine ax_r rfl rfl rfl ?_
      exact k3 c1 c3
    · refine ax_s (pc' := 48) (st' := [.ref 38]) rfl rfl rfl rfl ?_
      refine ax_s (pc' := 49) (st' := [.ref 38, .ref 38]) rfl rfl rfl rfl ?_
      refine ax_get rfl (hh_38 _ _ _) rfl rfl rfl ?_
      show am_ex (d + 3) 52 52 [some (.ref 38), some (.ref 20)] [.int ((am_ovl S (40 + 9 * m) (am_sub S 20)) 38 2), .ref 38] (am_hh X (am_u (am_ovl S (40 + 9 * m) (am_sub S 20)) 38 1 (((am_ovl S (40 + 9 * m) (am_sub S 20)) 38 1) + 1)) L) _
      refine ax_s (pc' := 53) (st' := [.int 1, .int ((am_ovl S (40 + 9 * m) (am_sub S 20)) 38 2), .ref 38]) rfl rfl rfl rfl ?_
      refine ax_s (pc' := 54) (st' := [.int (((am_ovl S (40 + 9 * m) (am_sub S 20)) 38 2) + 1), .ref 38]) rfl rfl rfl rfl ?_
      refine ax_put rfl (hh_38 _ _ _) rfl rfl (show 2 + 1 ≤ _ from Nat.le_of_ble_eq_true rfl) rfl (am_hh_set _ _ _ 38 2 _ rfl) ?_
      refine ax_r rfl rfl rfl ?_
      show am_ex (d + 4) 51 11 [some (.ref 5)] [] (am_hh X (am_u (am_u (am_ovl S (40 + 9 * m) (am_sub S 20)) 38 1 (((am_ovl S (40 + 9 * m) (am_sub S 20)) 38 1) + 1)) 38 2 (((am_ovl S (40 + 9 * m) (am_sub S 20)) 38 2) + 1)) L) _
      refine ax_s (pc' := 12) (st' := [.ref 5]) rfl rfl rfl rfl ?_
      refine ax_get rfl (hh_5 _ _ _) rfl rfl rfl ?_
      show am_ex (d + 4) 51 15 [some (.ref 5)] [.ref 277] (am_hh X (am_u (am_u (am_ovl S (40 + 9 * m) (am_sub S 20)) 38 1 (((am_ovl S (40 + 9 * m) (am_sub S 20)) 38 1) + 1)) 38 2 (((am_ovl S (40 + 9 * m) (am_sub S 20)) 38 2) + 1)) L) _
      refine ax_call (vs := [.ref 277]) (rr := []) rfl rfl rfl ?_
      refine ax_in (ls := [some (.ref 277)]) rfl ?_
      refine ax_s (pc' := 1) (st' := [.ref 277]) rfl rfl rfl rfl ?_
      refine ax_s (pc' := 2) (st' := [.int 0, .ref 277]) rfl rfl rfl rfl ?_
      refine ax_put rfl (hh_277 _ _ _) rfl rfl (show 3 + 1 ≤ _ from Nat.le_of_ble_eq_true rfl) rfl (am_hh_set _ _ _ 277 3 _ rfl) ?_
      refine ax_r rfl rfl rfl ?_
      show am_ex (d + 4) 51 18 [some (.ref 5)] [] (am_hh X (am_u (am_u (am_u (am_ovl S (40 + 9 * m) (am_sub S 20)) 38 1 (((am_ovl S (40 + 9 * m) (am_sub S 20)) 38 1) + 1)) 38 2 (((am_ovl S (40 + 9 * m) (am_sub S 20)) 38 2) + 1)) 277 3 0) L) _
      refine ax_r rfl rfl rfl ?_
      exact k4 c1 c3
theorem wp_notes {d : Nat} {X : Nat × (Nat → Int32)} {S : Nat → Nat → Int32} {L : Nat → Int64} {k : Nat} {Q : Option Value → am_H → Prop} (hk : S 285 14 = nI k) (hk1 : S 285 14 = 24 → S 285 14 - 1 = nI 23)  (x1 : ¬ (S 285 14) = 24 → (39 * k) + 39 ≤ 936) (x2 : (S 285 14) = 24 → (39 * 23) + 39 ≤ 936) (k1 : ¬ (S 285 14) = 24 → Q none (am_hh X (am_u (am_uc S 294 (va_cpy (S 293) (S 294) 0 (39 * k) 39)) 285 14 ((S 285 14) + 1)) L)) (k2 : (S 285 14) = 24 → Q none (am_hh X (am_u (am_uc (am_u (am_uc S 294 (va_cpy (S 294) (S 294) 39 0 897)) 285 14 ((S 285 14) - 1)) 294 (va_cpy (S 293) ((va_cpy (S 294) (S 294) 39 0 897)) 0 (39 * 23) 39)) 285 14 (((S 285 14) - 1) + 1)) L)) : am_mt (d + 2) 172 [.ref 285] (am_hh X S L) Q := by
  refine ax_in (ls := [some (.ref 285)]) rfl ?_
  refine ax_s (pc' := 1) (st' := [.ref 285]) rfl rfl rfl rfl ?_
  refine ax_get rfl (hh_285 _ _ _) rfl rfl rfl ?_
  show am_ex (d + 2) 172 4 [some (.ref 285)] [.int (S 285 14)] (am_hh X S L) _
  refine ax_s (pc' := 6) (st' := [.int 24, .int (S 285 14)]) rfl rfl rfl rfl ?_
  refine ax_cmp_ne rfl (fun c1 => ?_) (fun c1 => ?_)
  · refine ax_s (pc' := 37) (st' := [.ref 285]) rfl rfl rfl rfl ?_
    refine ax_get rfl (hh_285 _ _ _) rfl rfl rfl ?_
    show am_ex (d + 2) 172 40 [some (.ref 285)] [.ref 293] (am_hh X S L) _
    refine ax_s (pc' := 41) (st' := [.int 0, .ref 293]) rfl rfl rfl rfl ?_
    refine ax_s (pc' := 42) (st' := [.ref 285, .int 0, .ref 293]) rfl rfl rfl rfl ?_
    refine ax_get rfl (hh_285 _ _ _) rfl rfl rfl ?_
    show am_ex (d + 2) 172 45 [some (.ref 285)] [.ref 294, .int 0, .ref 293] (am_hh X S L) _
    refine ax_s (pc' := 47) (st' := [.int 39, .ref 294, .int 0, .ref 293]) rfl rfl rfl rfl ?_
    refine ax_s (pc' := 48) (st' := [.ref 285, .int 39, .ref 294, .int 0, .ref 293]) rfl rfl rfl rfl ?_
    refine ax_get rfl (hh_285 _ _ _) rfl rfl rfl ?_
    show am_ex (d + 2) 172 51 [some (.ref 285)] [.int (S 285 14), .int 39, .ref 294, .int 0, .ref 293] (am_hh X S L) _
    refine ax_s (pc' := 52) (st' := [.int (39 * (S 285 14)), .ref 294, .int 0, .ref 293]) rfl rfl rfl rfl ?_
    refine ax_s (pc' := 54) (st' := [.int 39, .int (39 * (S 285 14)), .ref 294, .int 0, .ref 293]) rfl rfl rfl rfl ?_
    refine ax_call (vs := [.ref 293, .int 0, .ref 294, .int (39 * (S 285 14)), .int 39]) (rr := []) rfl rfl rfl ?_
    refine mt_bring 293 294 39 936 0 (39 * k) 39 (fun _ => rfl) (fun _ => rfl) (by decide) (by decide) (by decide) (by decide) (Or.inl (by decide)) rfl (am_nm (x := 39) (y := k) rfl hk) rfl (by decide) (x1 c1) ?_
    show am_ex (d + 2) 172 57 [some (.ref 285)] [] (am_hh X (am_uc S 294 (va_cpy (S 293) (S 294) 0 (39 * k) 39)) L) _
    refine ax_s (pc' := 58) (st' := [.ref 285]) rfl rfl rfl rfl ?_
    refine ax_s (pc' := 59) (st' := [.ref 285, .ref 285]) rfl rfl rfl rfl ?_
    refine ax_get rfl (hh_285 _ _ _) rfl rfl rfl ?_
    show am_ex (d + 2) 172 62 [some (.ref 285)] [.int (S 285 14), .ref 285] (am_hh X (am_uc S 294 (va_cpy (S 293) (S 294) 0 (39 * k) 39)) L) _
    refine ax_s (pc' := 63) (st' := [.int 1, .int (S 285 14), .ref 285]) rfl rfl rfl rfl ?_
    refine ax_s (pc' := 64) (st' := [.int ((S 285 14) + 1), .ref 285]) rfl rfl rfl rfl ?_
    refine ax_put rfl (hh_285 _ _ _) rfl rfl (show 14 + 1 ≤ _ from Nat.le_of_ble_eq_true rfl) rfl (am_hh_set _ _ _ 285 14 _ rfl) ?_
    refine ax_r rfl rfl rfl ?_
    exact k1 c1
  · refine ax_s (pc' := 10) (st' := [.ref 285]) rfl rfl rfl rfl ?_
    refine ax_get rfl (hh_285 _ _ _) rfl rfl rfl ?_
    show am_ex (d + 2) 172 13 [some (.ref 285)] [.ref 294] (am_hh X S L) _
    refine ax_s (pc' := 15) (st' := [.int 39, .ref 294]) rfl rfl rfl rfl ?_
    refine ax_s (pc' := 16) (st' := [.ref 285, .int 39, .ref 294]) rfl rfl rfl rfl ?_
    refine ax_get rfl (hh_285 _ _ _) rfl rfl rfl ?_
    show am_ex (d + 2) 172 19 [some (.ref 285)] [.ref 294, .int 39, .ref 294] (am_hh X S L) _
    refine ax_s (pc' := 20) (st' := [.int 0, .ref 294, .int 39, .ref 294]) rfl rfl rfl rfl ?_
    refine ax_s (pc' := 23) (st' := [.int 897, .int 0, .ref 294, .int 39, .ref 294]) rfl rfl rfl rfl ?_
    refine ax_call (vs := [.ref 294, .int 39, .ref 294, .int 0, .int 897]) (rr := []) rfl rfl rfl ?_
    refine mt_bring 294 294 936 936 39 0 897 (fun _ => rfl) (fun _ => rfl) (by decide) (by decide) (by decide) (by decide) (Or.inr (by decide)) rfl rfl rfl (by decide) (by decide) ?_
    show am_ex (d + 2) 172 26 [some (.ref 285)] [] (am_hh X (am_uc S 294 (va_cpy (S 294) (S 294) 39 0 897)) L) _
    refine ax_s (pc' := 27) (st' := [.ref 285]) rfl rfl rfl rfl ?_
    refine ax_s (pc' := 28) (st' := [.ref 285, .ref 285]) rfl rfl rfl rfl ?_
    refine ax_get rfl (hh_285 _ _ _) rfl rfl rfl ?_
    show am_ex (d + 2) 172 31 [some (.ref 285)] [.int (S 285 14), .ref 285] (am_hh X (am_uc S 294 (va_cpy (S 294) (S 294) 39 0 897)) L) _
    refine ax_s (pc' := 32) (st' := [.int 1, .int (S 285 14), .ref 285]) rfl rfl rfl rfl ?_
    refine ax_s (pc' := 33) (st' := [.int ((S 285 14) - 1), .ref 285]) rfl rfl rfl rfl ?_
    refine ax_put rfl (hh_285 _ _ _) rfl rfl (show 14 + 1 ≤ _ from Nat.le_of_ble_eq_true rfl) rfl (am_hh_set _ _ _ 285 14 _ rfl) ?_
    refine ax_s (pc' := 37) (st' := [.ref 285]) rfl rfl rfl rfl ?_
    refine ax_get rfl (hh_285 _ _ _) rfl rfl rfl ?_
    show am_ex (d + 2) 172 40 [some (.ref 285)] [.ref 293] (am_hh X (am_u (am_uc S 294 (va_cpy (S 294) (S 294) 39 0 897)) 285 14 ((S 285 14) - 1)) L) _
    refine ax_s (pc' := 41) (st' := [.int 0, .ref 293]) rfl rfl rfl rfl ?_
    refine ax_s (pc' := 42) (st' := [.ref 285, .int 0, .ref 293]) rfl rfl rfl rfl ?_
    refine ax_get rfl (hh_285 _ _ _) rfl rfl rfl ?_
    show am_ex (d + 2) 172 45 [some (.ref 285)] [.ref 294, .int 0, .ref 293] (am_hh X (am_u (am_uc S 294 (va_cpy (S 294) (S 294) 39 0 897)) 285 14 ((S 285 14) - 1)) L) _
    refine ax_s (pc' := 47) (st' := [.int 39, .ref 294, .int 0, .ref 293]) rfl rfl rfl rfl ?_
    refine ax_s (pc' := 48) (st' := [.ref 285, .int 39, .ref 294, .int 0, .ref 293]) rfl rfl rfl rfl ?_
    refine ax_get rfl (hh_285 _ _ _) rfl rfl rfl ?_
    show am_ex (d + 2) 172 51 [some (.ref 285)] [.int ((S 285 14) - 1), .int 39, .ref 294, .int 0, .ref 293] (am_hh X (am_u (am_uc S 294 (va_cpy (S 294) (S 294) 39 0 897)) 285 14 ((S 285 14) - 1)) L) _
    refine ax_s (pc' := 52) (st' := [.int (39 * ((S 285 14) - 1)), .ref 294, .int 0, .ref 293]) rfl rfl rfl rfl ?_
    refine ax_s (pc' := 54) (st' := [.int 39, .int (39 * ((S 285 14) - 1)), .ref 294, .int 0, .ref 293]) rfl rfl rfl rfl ?_
    refine ax_call (vs := [.ref 293, .int 0, .ref 294, .int (39 * ((S 285 14) - 1)), .int 39]) (rr := []) rfl rfl rfl ?_
    refine mt_bring 293 294 39 936 0 (39 * 23) 39 (fun _ => rfl) (fun _ => rfl) (by decide) (by decide) (by decide) (by decide) (Or.inl (by decide)) rfl (am_nm (x := 39) (y := 23) rfl (hk1 (by assumption))) rfl (by decide) (x2 c1) ?_
    show am_ex (d + 2) 172 57 [some (.ref 285)] [] (am_hh X (am_uc (am_u (am_uc S 294 (va_cpy (S 294) (S 294) 39 0 897)) 285 14 ((S 285 14) - 1)) 294 (va_cpy (S 293) ((va_cpy (S 294) (S 294) 39 0 897)) 0 (39 * 23) 39)) L) _
    refine ax_s (pc' := 58) (st' := [.ref 285]) rfl rfl rfl rfl ?_
    refine ax_s (pc' := 59) (st' := [.ref 285, .ref 285]) rfl rfl rfl rfl ?_
    refine ax_get rfl (hh_285 _ _ _) rfl rfl rfl ?_
    show am_ex (d + 2) 172 62 [some (.ref 285)] [.int ((S 285 14) - 1), .ref 285] (am_hh X (am_uc (am_u (am_uc S 294 (va_cpy (S 294) (S 294) 39 0 897)) 285 14 ((S 285 14) - 1)) 294 (va_cpy (S 293) ((va_cpy (S 294) (S 294) 39 0 897)) 0 (39 * 23) 39)) L) _
    refine ax_s (pc' := 63) (st' := [.int 1, .int ((S 285 14) - 1), .ref 285]) rfl rfl rfl rfl ?_
    refine ax_s (pc' := 64) (st' := [.int (((S 285 14) - 1) + 1), .ref 285]) rfl rfl rfl rfl ?_
    refine ax_put rfl (hh_285 _ _ _) rfl rfl (show 14 + 1 ≤ _ from Nat.le_of_ble_eq_true rfl) rfl (am_hh_set _ _ _ 285 14 _ rfl) ?_
    refine ax_r rfl rfl rfl ?_
    exact k2 c1
