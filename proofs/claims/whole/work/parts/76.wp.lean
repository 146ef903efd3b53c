theorem wl_limit {d : Nat} {X : Nat × (Nat → Int32)} {S : Nat → Nat → Int32} {L : Nat → Int64} {g n : Nat} {W1 : Nat → Nat → Int32} {t v : Nat} {Q : Option Value → am_H → Prop} (hf : wF (am_sub S 20) g n) (hc1 : w_cl W1) (hc0 : w_cl (am_sub S 20))  (x1 : ¬ 99 < (nI v) → t < 1000) (k1 : 99 < (nI v) → Q (some (.int (-1000000))) (am_hh X (am_ovl S 29 W1) L)) (k2 : ¬ 99 < (nI v) → ¬ (w_sk rk0 g n 1 t 0 (am_u (am_sub S 20) 0 1 (nI v))).1 = 0 → am_ex (d + 7) 100 2 [some (.ref 277), some (.int (nI t)), some (.int (nI (v + 1)))] [] (am_hh X (am_ovl S 29 (w_sk rk0 g n 1 t 0 (am_u (am_sub S 20) 0 1 (nI v))).2) L) Q) (k3 : ¬ 99 < (nI v) → (w_sk rk0 g n 1 t 0 (am_u (am_sub S 20) 0 1 (nI v))).1 = 0 → Q (some (.int (nI v))) (am_hh X (am_ovl S 29 (w_sk rk0 g n 1 t 0 (am_u (am_sub S 20) 0 1 (nI v))).2) L)) : am_ex (d + 7) 100 2 [some (.ref 277), some (.int (nI t)), some (.int (nI v))] [] (am_hh X (am_ovl S 29 W1) L) Q := by
  refine ax_s (pc' := 3) (st' := [.int (nI v)]) rfl rfl rfl rfl ?_
  refine ax_s (pc' := 5) (st' := [.int 99, .int (nI v)]) rfl rfl rfl rfl ?_
  refine ax_cmp_gt rfl (fun c1 => ?_) (fun c1 => ?_)
  · refine ax_s (pc' := 49) (st' := [.int (-1000000)]) rfl rfl rfl rfl ?_
    refine ax_r rfl rfl rfl ?_
    exact k1 c1
  · refine ax_s (pc' := 9) (st' := [.ref 277]) rfl rfl rfl rfl ?_
    refine ax_get rfl (hh_277 _ _ _) rfl rfl rfl ?_
    show am_ex (d + 7) 100 12 [some (.ref 277), some (.int (nI t)), some (.int (nI v))] [.ref 29] (am_hh X (am_ovl S 29 W1) L) _
    refine ax_s (pc' := 13) (st' := [.ref 277, .ref 29]) rfl rfl rfl rfl ?_
    refine ax_get rfl (hh_277 _ _ _) rfl rfl rfl ?_
    show am_ex (d + 7) 100 16 [some (.ref 277), some (.int (nI t)), some (.int (nI v))] [.ref 20, .ref 29] (am_hh X (am_ovl S 29 W1) L) _
    refine ax_call (vs := [.ref 29, .ref 20]) (rr := []) rfl rfl rfl ?_
    refine kt_takeFrom29' hc1 hc0 ?_
    show am_ex (d + 7) 100 19 [some (.ref 277), some (.int (nI t)), some (.int (nI v))] [] (am_hh X (am_ovl S 29 (am_sub S 20)) L) _
    refine ax_s (pc' := 20) (st' := [.ref 277]) rfl rfl rfl rfl ?_
    refine ax_get rfl (hh_277 _ _ _) rfl rfl rfl ?_
    show am_ex (d + 7) 100 23 [some (.ref 277), some (.int (nI t)), some (.int (nI v))] [.ref 29] (am_hh X (am_ovl S 29 (am_sub S 20)) L) _
    refine ax_s (pc' := 24) (st' := [.int (nI v), .ref 29]) rfl rfl rfl rfl ?_
    refine ax_put rfl (hh_29 _ _ _) rfl rfl (show 1 + 1 ≤ _ from Nat.le_of_ble_eq_true rfl) rfl (am_hh_setW _ _ _ _ 0 1 _ (by decide) rfl) ?_
    refine ax_s (pc' := 28) (st' := [.ref 277]) rfl rfl rfl rfl ?_
    refine ax_get rfl (hh_277 _ _ _) rfl rfl rfl ?_
    show am_ex (d + 7) 100 31 [some (.ref 277), some (.int (nI t)), some (.int (nI v))] [.ref 29] (am_hh X (am_ovl S 29 (am_u (am_sub S 20) 0 1 (nI v))) L) _
    refine ax_s (pc' := 32) (st' := [.int (nI t), .ref 29]) rfl rfl rfl rfl ?_
    refine ax_s (pc' := 33) (st' := [.int 1, .int (nI t), .ref 29]) rfl rfl rfl rfl ?_
    refine ax_call (vs := [.ref 29, .int (nI t), .int 1]) (rr := []) rfl rfl rfl ?_
    refine kw (am_hh_ov isW29 X S L (am_u (am_sub S 20) 0 1 (nI v))).symm (am_hh_ov isW29 X S L _) (fun _ => ct_sticksIn (rk := rk0) (am_isW_k isW29 X S L) (wF_u (c := 0) (i := 1) (v := nI v) hf (by omega)).1 (wF_u (c := 0) (i := 1) (v := nI v) hf (by omega)).2.1 (wF_u (c := 0) (i := 1) (v := nI v) hf (by omega)).2.2.1 (wF_u (c := 0) (i := 1) (v := nI v) hf (by omega)).2.2.2 (hh_s1 _ _ _) (x1 c1)) ?_
    show am_ex (d + 7) 100 36 [some (.ref 277), some (.int (nI t)), some (.int (nI v))] [.int (w_sk rk0 g n 1 t 0 (am_u (am_sub S 20) 0 1 (nI v))).1] (am_hh X (am_ovl S 29 (w_sk rk0 g n 1 t 0 (am_u (am_sub S 20) 0 1 (nI v))).2) L) _
    refine ax_if_ne rfl (fun c2 => ?_) (fun c2 => ?_)
    · refine ax_s (pc' := 44) (ls' := [some (.ref 277), some (.int (nI t)), some (.int ((nI v) + 1))]) (st' := []) rfl rfl rfl rfl ?_
      rw [nI_1]
      refine ax_s (pc' := 2) (st' := []) rfl rfl rfl rfl ?_
      exact k2 c1 c2
    · refine ax_s (pc' := 40) (st' := [.int (nI v)]) rfl rfl rfl rfl ?_
      refine ax_r rfl rfl rfl ?_
      exact k3 c1 c2
theorem wp_limit {d : Nat} {X : Nat × (Nat → Int32)} {S : Nat → Nat → Int32} {L : Nat → Int64} {t : Nat} {Q : Option Value → am_H → Prop}  (k1 : am_ex (d + 7) 100 2 [some (.ref 277), some (.int (nI t)), some (.int 1)] [] (am_hh X S L) Q) : am_mt (d + 7) 100 [.ref 277, .int (nI t)] (am_hh X S L) Q := by
  refine ax_in (ls := [some (.ref 277), some (.int (nI t)), none]) rfl ?_
  refine ax_s (pc' := 1) (st' := [.int 1]) rfl rfl rfl rfl ?_
  refine ax_s (pc' := 2) (ls' := [some (.ref 277), some (.int (nI t)), some (.int 1)]) (st' := []) rfl rfl rfl rfl ?_
  exact k1
theorem wp_load {d : Nat} {X : Nat × (Nat → Int32)} {S : Nat → Nat → Int32} {L : Nat → Int64} {t : Nat} {Q : Option Value → am_H → Prop}  (k1 : am_ex (d + 7) 97 15 [some (.ref 277), some (.int (nI t)), some (.int 0), none, none] [] (am_hh X (am_u (am_u S 277 7 (-1000000)) 277 8 ((nI t) + 1)) L) Q) : am_mt (d + 7) 97 [.ref 277, .int (nI t)] (am_hh X S L) Q := by
  refine ax_in (ls := [some (.ref 277), some (.int (nI t)), none, none, none]) rfl ?_
  refine ax_s (pc' := 1) (st' := [.ref 277]) rfl rfl rfl rfl ?_
  refine ax_s (pc' := 3) (st' := [.int (-1000000), .ref 277]) rfl rfl rfl rfl ?_
  refine ax_put rfl (hh_277 _ _ _) rfl rfl (show 7 + 1 ≤ _ from Nat.le_of_ble_eq_true rfl) rfl (am_hh_set _ _ _ 277 7 _ rfl) ?_
  refine ax_s (pc' := 7) (st' := [.ref 277]) rfl rfl rfl rfl ?_
  refine ax_s (pc' := 8) (st' := [.int (nI t), .ref 277]) rfl rfl rfl rfl ?_
  refine ax_s (pc' := 9) (st' := [.int 1, .int (nI t), .ref 277]) rfl rfl rfl rfl ?_
  refine ax_s (pc' := 10) (st' := [.int ((nI t) + 1), .ref 277]) rfl rfl rfl rfl ?_
  refine ax_put rfl (hh_277 _ _ _) rfl rfl (show 8 + 1 ≤ _ from Nat.le_of_ble_eq_true rfl) rfl (am_hh_set _ _ _ 277 8 _ rfl) ?_
  refine ax_s (pc' := 14) (st' := [.int 0]) rfl rfl rfl rfl ?_
  refine ax_s (pc' := 15) (ls' := [some (.ref 277), some (.int (nI t)), some (.int 0), none, none]) (st' := []) rfl rfl rfl rfl ?_
  exact k1
theorem wl_load1 {d : Nat} {X : Nat × (Nat → Int32)} {S : Nat → Nat → Int32} {L : Nat → Int64} {t j : Nat} {x3 x4 : Option Value} {W1 : Nat → Nat → Int32} {Q : Option Value → am_H → Prop}  (k1 : (S 20 0) ≤ (nI j) → Q none (am_hh X (am_ovl S 29 W1) L)) (k2 : ¬ (S 20 0) ≤ (nI j) → am_ex (d + 7) 97 28 [some (.ref 277), some (.int (nI t)), some (.int (nI j)), some (.int 1), x4] [] (am_hh X (am_ovl S 29 W1) L) Q) : am_ex (d + 7) 97 15 [some (.ref 277), some (.int (nI t)), some (.int (nI j)), x3, x4] [] (am_hh X (am_ovl S 29 W1) L) Q := by
  refine ax_s (pc' := 16) (st' := [.int (nI j)]) rfl rfl rfl rfl ?_
  refine ax_s (pc' := 17) (st' := [.ref 277, .int (nI j)]) rfl rfl rfl rfl ?_
  refine ax_get rfl (hh_277 _ _ _) rfl rfl rfl ?_
  show am_ex (d + 7) 97 20 [some (.ref 277), some (.int (nI t)), some (.int (nI j)), x3, x4] [.ref 20, .int (nI j)] (am_hh X (am_ovl S 29 W1) L) _
  refine ax_get rfl (hh_20 _ _ _) rfl rfl rfl ?_
  show am_ex (d + 7) 97 23 [some (.ref 277), some (.int (nI t)), some (.int (nI j)), x3, x4] [.int (S 20 0), .int (nI j)] (am_hh X (am_ovl S 29 W1) L) _
  refine ax_cmp_ge rfl (fun c1 => ?_) (fun c1 => ?_)
  · refine ax_r rfl rfl rfl ?_
    exact k1 c1
  · refine ax_s (pc' := 27) (st' := [.int 1]) rfl rfl rfl rfl ?_
    refine ax_s (pc' := 28) (ls' := [some (.ref 277), some (.int (nI t)), some (.int (nI j)), some (.int 1), x4]) (st' := []) rfl rfl rfl rfl ?_
    exact k2 c1
theorem wl_load2 {d : Nat} {X : Nat × (Nat → Int32)} {S : Nat → Nat → Int32} {L : Nat → Int64} {g n : Nat} {t j v : Nat} {x4 : Option Value} {W1 : Nat → Nat → Int32} {Q : Option Value → am_H → Prop} (hf : wF (am_sub S 20) g n) (hc1 : w_cl W1) (hc0 : w_cl (am_sub S 20))  (x1 : ¬ 9 < (nI v) → j < 12) (x2 : ¬ 9 < (nI v) → t < 1000) (k1 : 9 < (nI v) → am_ex (d + 7) 97 15 [some (.ref 277), some (.int (nI t)), some (.int (nI (j + 1))), some (.int (nI v)), x4] [] (am_hh X (am_ovl S 29 W1) L) Q) (k2 : ¬ 9 < (nI v) → (S 277 8) ≤ (w_sk rk0 g n (S 277 8) t 0 (am_u (am_sub S 20) 1 j (nI v))).1 → am_ex (d + 7) 97 28 [some (.ref 277), some (.int (nI t)), some (.int (nI j)), some (.int (nI (v + 1))), some (.int (w_sk rk0 g n (S 277 8) t 0 (am_u (am_sub S 20) 1 j (nI v))).1)] [] (am_hh X (am_ovl S 29 (w_sk rk0 g n (S 277 8) t 0 (am_u (am_sub S 20) 1 j (nI v))).2) L) Q) (k3 : ¬ 9 < (nI v) → ¬ (S 277 8) ≤ (w_sk rk0 g n (S 277 8) t 0 (am_u (am_sub S 20) 1 j (nI v))).1 → am_ex (d + 7) 97 28 [some (.ref 277), some (.int (nI t)), some (.int (nI j)), some (.int (nI (v + 1))), some (.int (w_sk rk0 g n (S 277 8) t 0 (am_u (am_sub S 20) 1 j (nI v))).1)] [] (am_hh X (am_ovl (am_u (am_u S 277 8 (w_sk rk0 g n (S 277 8) t 0 (am_u (am_sub S 20) 1 j (nI v))).1) 277 7 ((10 * (nI j)) + (nI v))) 29 (w_sk rk0 g n (S 277 8) t 0 (am_u (am_sub S 20) 1 j (nI v))).2) L) Q) : am_ex (d + 7) 97 28 [some (.ref 277), some (.int (nI t)), some (.int (nI j)), some (.int (nI v)), x4] [] (am_hh X (am_ovl S 29 W1) L) Q := by
  refine ax_s (pc' := 29) (st' := [.int (nI v)]) rfl rfl rfl rfl ?_
  refine ax_s (pc' := 31) (st' := [.int 9, .int (nI v)]) rfl rfl rfl rfl ?_
  refine ax_cmp_gt rfl (fun c1 => ?_) (fun c1 => ?_)
  · refine ax_s (pc' := 103) (ls' := [some (.ref 277), some (.int (nI t)), some (.int ((nI j) + 1)), some (.int (nI v)), x4]) (st' := []) rfl rfl rfl rfl ?_
    rw [nI_1]
    refine ax_s (pc' := 15) (st' := []) rfl rfl rfl rfl ?_
    exact k1 c1
  · refine ax_s (pc' := 35) (st' := [.ref 277]) rfl rfl rfl rfl ?_
    refine ax_get rfl (hh_277 _ _ _) rfl rfl rfl ?_
    show am_ex (d + 7) 97 38 [some (.ref 277), some (.int (nI t)), some (.int (nI j)), some (.int (nI v)), x4] [.ref 29] (am_hh X (am_ovl S 29 W1) L) _
    refine ax_s (pc' := 39) (st' := [.ref 277, .ref 29]) rfl rfl rfl rfl ?_
    refine ax_get rfl (hh_277 _ _ _) rfl rfl rfl ?_
    show am_ex (d + 7) 97 42 [some (.ref 277), some (.int (nI t)), some (.int (nI j)), some (.int (nI v)), x4] [.ref 20, .ref 29] (am_hh X (am_ovl S 29 W1) L) _
    refine ax_call (vs := [.ref 29, .ref 20]) (rr := []) rfl rfl rfl ?_
    refine kt_takeFrom29' hc1 hc0 ?_
    show am_ex (d + 7) 97 45 [some (.ref 277), some (.int (nI t)), some (.int (nI j)), some (.int (nI v)), x4] [] (am_hh X (am_ovl S 29 (am_sub S 20)) L) _
    refine ax_s (pc' := 46) (st' := [.ref 277]) rfl rfl rfl rfl ?_
    refine ax_get rfl (hh_277 _ _ _) rfl rfl rfl ?_
    show am_ex (d + 7) 97 49 [some (.ref 277), some (.int (nI t)), some (.int (nI j)), some (.int (nI v)), x4] [.ref 29] (am_hh X (am_ovl S 29 (am_sub S 20)) L) _
    refine ax_get rfl (hh_29 _ _ _) rfl rfl rfl ?_
    show am_ex (d + 7) 97 52 [some (.ref 277), some (.int (nI t)), some (.int (nI j)), some (.int (nI v)), x4] [.ref 30] (am_hh X (am_ovl S 29 (am_sub S 20)) L) _
    refine ax_s (pc' := 53) (st' := [.int (nI j), .ref 30]) rfl rfl rfl rfl ?_
    refine ax_s (pc' := 54) (st' := [.int (nI v), .int (nI j), .ref 30]) rfl rfl rfl rfl ?_
    refine ax_ast (j := j) rfl (hh_30 _ _ _) rfl rfl (x1 c1) (by decide) (am_hh_setW _ _ _ _ 1 j _ (by decide) rfl) ?_
    refine ax_s (pc' := 56) (st' := [.ref 277]) rfl rfl rfl rfl ?_
    refine ax_get rfl (hh_277 _ _ _) rfl rfl rfl ?_
    show am_ex (d + 7) 97 59 [some (.ref 277), some (.int (nI t)), some (.int (nI j)), some (.int (nI v)), x4] [.ref 29] (am_hh X (am_ovl S 29 (am_u (am_sub S 20) 1 j (nI v))) L) _
    refine ax_s (pc' := 60) (st' := [.int (nI t), .ref 29]) rfl rfl rfl rfl ?_
    refine ax_s (pc' := 61) (st' := [.ref 277, .int (nI t), .ref 29]) rfl rfl rfl rfl ?_
    refine ax_get rfl (hh_277 _ _ _) rfl rfl rfl ?_
    show am_ex (d + 7) 97 64 [some (.ref 277), some (.int (nI t)), some (.int (nI j)), some (.int (nI v)), x4] [.int (S 277 8), .int (nI t), .ref 29] (am_hh X (am_ovl S 29 (am_u (am_sub S 20) 1 j (nI v))) L) _
    refine ax_call (vs := [.ref 29, .int (nI t), .int (S 277 8)]) (rr := []) rfl rfl rfl ?_
    refine kw (am_hh_ov isW29 X S L (am_u (am_sub S 20) 1 j (nI v))).symm (am_hh_ov isW29 X S L _) (fun _ => ct_sticksIn (rk := rk0) (am_isW_k isW29 X S L) (wF_u (c := 1) (i := j) (v := nI v) hf (by omega)).1 (wF_u (c := 1) (i := j) (v := nI v) hf (by omega)).2.1 (wF_u (c := 1) (i := j) (v := nI v) hf (by omega)).2.2.1 (wF_u (c := 1) (i := j) (v := nI v) hf (by omega)).2.2.2 (hh_s1 _ _ _) (x2 c1)) ?_
    show am_ex (d + 7) 97 67 [some (.ref 277), some (.int (nI t)), some (.int (nI j)), some (.int (nI v)), x4] [.int (w_sk rk0 g n (S 277 8) t 0 (am_u (am_sub S 20) 1 j (nI v))).1] (am_hh X (am_ovl S 29 (w_sk rk0 g n (S 277 8) t 0 (am_u (am_sub S 20) 1 j (nI v))).2) L) _
    refine ax_s (pc' := 69) (ls' := [some (.ref 277), some (.int (nI t)), some (.int (nI j)), some (.int (nI v)), some (.int (w_sk rk0 g n (S 277 8) t 0 (am_u (am_sub S 20) 1 j (nI v))).1)]) (st' := []) rfl rfl rfl rfl ?_
    refine ax_s (pc' := 71) (st' := [.int (w_sk rk0 g n (S 277 8) t 0 (am_u (am_sub S 20) 1 j (nI v))).1]) rfl rfl rfl rfl ?_
    refine ax_s (pc' := 72) (st' := [.ref 277, .int (w_sk rk0 g n (S 277 8) t 0 (am_u (am_sub S 20) 1 j (nI v))).1]) rfl rfl rfl rfl ?_
    refine ax_get rfl (hh_277 _ _ _) rfl rfl rfl ?_
    show am_ex (d + 7) 97 75 [some (.ref 277), some (.int (nI t)), some (.int (nI j)), some (.int (nI v)), some (.int (w_sk rk0 g n (S 277 8) t 0 (am_u (am_sub S 20) 1 j (nI v))).1)] [.int (S 277 8), .int (w_sk rk0 g n (S 277 8) t 0 (am_u (am_sub S 20) 1 j (nI v))).1] (am_hh X (am_ovl S 29 (w_sk rk0 g n (S 277 8) t 0 (am_u (am_sub S 20) 1 j (nI v))).2) L) _
    refine ax_cmp_ge rfl (fun c2 => ?_) (fun c2 => ?_)
    · refine ax_s (pc' := 97) (ls' := [some (.ref 277), some (.int (nI t)), some (.int (nI j)), some (.int ((nI v) + 1)), some (.int (w_sk rk0 g n (S 277 8) t 0 (am_u (am_sub S 20) 1 j (nI v))).1)]) (st' := []) rfl rfl rfl rfl ?_
      rw [nI_1]
      refine ax_s (pc' := 28) (st' := []) rfl rfl rfl rfl ?_
      exact k2 c1 c2
    · refine ax_s (pc' := 79) (st' := [.ref 277]) rfl rfl rfl rfl ?_
      refine ax_s (pc' := 81) (st' := [.int (w_sk rk0 g n (S 277 8) t 0 (am_u (am_sub S 20) 1 j (nI v))).1, .ref 277]) rfl rfl rfl rfl ?_
      refine ax_put rfl (hh_277 _ _ _) rfl rfl (show 8 + 1 ≤ _ from Nat.le_of_ble_eq_true rfl) rfl (am_hh_setO (i := 8) (v := (w_sk rk0 g n (S 277 8) t 0 (am_u (am_sub S 20) 1 j (nI v))).1) _ _ _ _ (by decide) rfl) ?_
      refine ax_s (pc' := 85) (st' := [.ref 277]) rfl rfl rfl rfl ?_
      refine ax_s (pc' := 87) (st' := [.int 10, .ref 277]) rfl rfl rfl rfl ?_
      refine ax_s (pc' := 88) (st' := [.int (nI j), .int 10, .ref 277]) rfl rfl rfl rfl ?_
      refine ax_s (pc' := 89) (st' := [.int (10 * (nI j)), .ref 277]) rfl rfl rfl rfl ?_
      refine ax_s (pc' := 90) (st' := [.int (nI v), .int (10 * (nI j)), .ref 277]) rfl rfl rfl rfl ?_
      refine ax_s (pc' := 91) (st' := [.int ((10 * (nI j)) + (nI v)), .ref 277]) rfl rfl rfl rfl ?_
      refine ax_put rfl (hh_277 _ _ _) rfl rfl (show 7 + 1 ≤ _ from Nat.le_of_ble_eq_true rfl) rfl (am_hh_setO (i := 7) (v := ((10 * (nI j)) + (nI v))) _ _ _ _ (by decide) rfl) ?_
      refine ax_s (pc' := 97) (ls' := [some (.ref 277), some (.int (nI t)), some (.int (nI j)), some (.int ((nI v) + 1)), some (.int (w_sk rk0 g n (S 277 8) t 0 (am_u (am_sub S 20) 1 j (nI v))).1)]) (st' := []) rfl rfl rfl rfl ?_
      rw [nI_1]
      refine ax_s (pc' := 28) (st' := []) rfl rfl rfl rfl ?_
      exact k3 c1 c2
