theorem wp_k_wheel {d : Nat} {X : Nat × (Nat → Int32)} {S : Nat → Nat → Int32} {L : Nat → Int64} {b : Nat → Int32} {len : Nat} {Q : Option Value → am_H → Prop} (hT : TP b len (am_u (am_u S 18 3 0) 18 1 0) (0, 0)) (hc : w_cl (am_sub (am_u (am_u S 18 3 0) 18 1 0) 29))  (f1 : ∀ N : Nat, ∀ S1 : Nat → Nat → Int32, FN b len N → RI b len (am_u (am_u S 18 3 0) 18 1 0) S1 N → (pz_st b len N).1 = 0 → w_cl (am_sub (am_u S1 18 2 0) 20)) (f2 : ∀ N : Nat, ∀ S1 : Nat → Nat → Int32, FN b len N → RI b len (am_u (am_u S 18 3 0) 18 1 0) S1 N → (pz_st b len N).1 = 0 → w_cl (am_sub (am_u S1 18 2 0) 29)) (k1 : ∀ N : Nat, ∀ S1 : Nat → Nat → Int32, FN b len N → RI b len (am_u (am_u S 18 3 0) 18 1 0) S1 N → (pz_st b len N).1 = 0 → Q (some (.int ((am_sub (am_u S1 18 2 0) 29) 0 4))) (am_hh X (am_u (am_u (am_ovl (am_u S1 18 2 0) 20 (am_sub (am_u S1 18 2 0) 29)) 38 2 0) 277 3 0) L)) (k2 : ∀ N : Nat, ∀ S1 : Nat → Nat → Int32, FN b len N → RI b len (am_u (am_u S 18 3 0) 18 1 0) S1 N → ¬ (pz_st b len N).1 = 0 → Q (some (.int ((-1000100) - (S1 18 3)))) (am_hh X (am_u (am_u S1 18 2 0) 5 11 (pz_st b len N).1) L)) : am_mt (d + 8) 28 [.ref 5] (am_hh X S L) Q := by
  refine ax_in (ls := [some (.ref 5), none]) rfl ?_
  refine ax_s (pc' := 1) (st' := [.ref 5]) rfl rfl rfl rfl ?_
  refine ax_get rfl (hh_5 _ _ _) rfl rfl rfl ?_
  show am_ex (d + 8) 28 4 [some (.ref 5), none] [.ref 18] (am_hh X S L) _
  refine ax_s (pc' := 5) (st' := [.ref 5, .ref 18]) rfl rfl rfl rfl ?_
  refine ax_get rfl (hh_5 _ _ _) rfl rfl rfl ?_
  show am_ex (d + 8) 28 8 [some (.ref 5), none] [.ref 29, .ref 18] (am_hh X S L) _
  refine ax_call (vs := [.ref 18, .ref 29]) (rr := []) rfl rfl rfl ?_
  refine kt_readInto hT hc (fun N S1 fn r1 => ?_)
  show am_ex (d + 8) 28 11 [some (.ref 5), none] [.int (pz_st b len N).1] (am_hh X S1 L) _
  refine ax_s (pc' := 12) (ls' := [some (.ref 5), some (.int (pz_st b len N).1)]) (st' := []) rfl rfl rfl rfl ?_
  refine ax_s (pc' := 13) (st' := [.ref 5]) rfl rfl rfl rfl ?_
  refine ax_get rfl (hh_5 _ _ _) rfl rfl rfl ?_
  show am_ex (d + 8) 28 16 [some (.ref 5), some (.int (pz_st b len N).1)] [.ref 18] (am_hh X S1 L) _
  refine ax_call (vs := [.ref 18]) (rr := []) rfl rfl rfl ?_
  refine ax_in (ls := [some (.ref 18)]) rfl ?_
  refine ax_s (pc' := 1) (st' := [.ref 18]) rfl rfl rfl rfl ?_
  refine ax_s (pc' := 2) (st' := [.int 0, .ref 18]) rfl rfl rfl rfl ?_
  refine ax_put rfl (hh_18 _ _ _) rfl rfl (show 2 + 1 ≤ _ from Nat.le_of_ble_eq_true rfl) rfl (am_hh_set _ _ _ 18 2 _ rfl) ?_
  refine ax_r rfl rfl rfl ?_
  show am_ex (d + 8) 28 19 [some (.ref 5), some (.int (pz_st b len N).1)] [] (am_hh X (am_u S1 18 2 0) L) _
  refine ax_s (pc' := 20) (st' := [.int (pz_st b len N).1]) rfl rfl rfl rfl ?_
  refine ax_if_eq rfl (fun c2 => ?_) (fun c2 => ?_)
  · refine ax_s (pc' := 40) (st' := [.ref 5]) rfl rfl rfl rfl ?_
    refine ax_get rfl (hh_5 _ _ _) rfl rfl rfl ?_
    show am_ex (d + 8) 28 43 [some (.ref 5), some (.int (pz_st b len N).1)] [.ref 20] (am_hh X (am_u S1 18 2 0) L) _
    refine ax_s (pc' := 44) (st' := [.ref 5, .ref 20]) rfl rfl rfl rfl ?_
    refine ax_get rfl (hh_5 _ _ _) rfl rfl rfl ?_
    show am_ex (d + 8) 28 47 [some (.ref 5), some (.int (pz_st b len N).1)] [.ref 29, .ref 20] (am_hh X (am_u S1 18 2 0) L) _
    refine ax_call (vs := [.ref 20, .ref 29]) (rr := []) rfl rfl rfl ?_
    refine kt_takeFrom isW20 isW29 (by omega) (f1 N S1 fn r1 c2) (f2 N S1 fn r1 c2) ?_
    show am_ex (d + 8) 28 50 [some (.ref 5), some (.int (pz_st b len N).1)] [] (am_hh X (am_ovl (am_u S1 18 2 0) 20 (am_sub (am_u S1 18 2 0) 29)) L) _
    refine ax_s (pc' := 51) (st' := [.ref 5]) rfl rfl rfl rfl ?_
    refine ax_get rfl (hh_5 _ _ _) rfl rfl rfl ?_
    show am_ex (d + 8) 28 54 [some (.ref 5), some (.int (pz_st b len N).1)] [.ref 38] (am_hh X (am_ovl (am_u S1 18 2 0) 20 (am_sub (am_u S1 18 2 0) 29)) L) _
    refine ax_call (vs := [.ref 38]) (rr := []) rfl rfl rfl ?_
    refine ax_in (ls := [some (.ref 38)]) rfl ?_
    refine ax_s (pc' := 1) (st' := [.ref 38]) rfl rfl rfl rfl ?_
    refine ax_s (pc' := 2) (st' := [.int 0, .ref 38]) rfl rfl rfl rfl ?_
    refine ax_put rfl (hh_38 _ _ _) rfl rfl (show 2 + 1 ≤ _ from Nat.le_of_ble_eq_true rfl) rfl (am_hh_set _ _ _ 38 2 _ rfl) ?_
    refine ax_r rfl rfl rfl ?_
    show am_ex (d + 8) 28 57 [some (.ref 5), some (.int (pz_st b len N).1)] [] (am_hh X (am_u (am_ovl (am_u S1 18 2 0) 20 (am_sub (am_u S1 18 2 0) 29)) 38 2 0) L) _
    refine ax_s (pc' := 58) (st' := [.ref 5]) rfl rfl rfl rfl ?_
    refine ax_get rfl (hh_5 _ _ _) rfl rfl rfl ?_
    show am_ex (d + 8) 28 61 [some (.ref 5), some (.int (pz_st b len N).1)] [.ref 277] (am_hh X (am_u (am_ovl (am_u S1 18 2 0) 20 (am_sub (am_u S1 18 2 0) 29)) 38 2 0) L) _
    refine ax_call (vs := [.ref 277]) (rr := []) rfl rfl rfl ?_
    refine ax_in (ls := [some (.ref 277)]) rfl ?_
    refine ax_s (pc' := 1) (st' := [.ref 277]) rfl rfl rfl rfl ?_
    refine ax_s (pc' := 2) (st' := [.int 0, .ref 277]) rfl rfl rfl rfl ?_
    refine ax_put rfl (hh_277 _ _ _) rfl rfl (show 3 + 1 ≤ _ from Nat.le_of_ble_eq_true rfl) rfl (am_hh_set _ _ _ 277 3 _ rfl) ?_
    refine ax_r rfl rfl rfl ?_
    show am_ex (d + 8) 28 64 [some (.ref 5), some (.int (pz_st b len N).1)] [] (am_hh X (am_u (am_u (am_ovl (am_u S1 18 2 0) 20 (am_sub (am_u S1 18 2 0) 29)) 38 2 0) 277 3 0) L) _
    refine ax_s (pc' := 65) (st' := [.ref 5]) rfl rfl rfl rfl ?_
    refine ax_get rfl (hh_5 _ _ _) rfl rfl rfl ?_
    show am_ex (d + 8) 28 68 [some (.ref 5), some (.int (pz_st b len N).1)] [.ref 20] (am_hh X (am_u (am_u (am_ovl (am_u S1 18 2 0) 20 (am_sub (am_u S1 18 2 0) 29)) 38 2 0) 277 3 0) L) _
    refine ax_get rfl (hh_20 _ _ _) rfl rfl rfl ?_
    show am_ex (d + 8) 28 71 [some (.ref 5), some (.int (pz_st b len N).1)] [.int ((am_sub (am_u S1 18 2 0) 29) 0 4)] (am_hh X (am_u (am_u (am_ovl (am_u S1 18 2 0) 20 (am_sub (am_u S1 18 2 0) 29)) 38 2 0) 277 3 0) L) _
    refine ax_r rfl rfl rfl ?_
    exact k1 N S1 fn r1 c2
  · refine ax_s (pc' := 24) (st' := [.ref 5]) rfl rfl rfl rfl ?_
    refine ax_s (pc' := 25) (st' := [.int (pz_st b len N).1, .ref 5]) rfl rfl rfl rfl ?_
    refine ax_put rfl (hh_5 _ _ _) rfl rfl (show 11 + 1 ≤ _ from Nat.le_of_ble_eq_true rfl) rfl (am_hh_set _ _ _ 5 11 _ rfl) ?_
    refine ax_s (pc' := 30) (st' := [.int (-1000100)]) rfl rfl rfl rfl ?_
    refine ax_s (pc' := 31) (st' := [.ref 5, .int (-1000100)]) rfl rfl rfl rfl ?_
    refine ax_get rfl (hh_5 _ _ _) rfl rfl rfl ?_
    show am_ex (d + 8) 28 34 [some (.ref 5), some (.int (pz_st b len N).1)] [.ref 18, .int (-1000100)] (am_hh X (am_u (am_u S1 18 2 0) 5 11 (pz_st b len N).1) L) _
    refine ax_get rfl (hh_18 _ _ _) rfl rfl rfl ?_
    show am_ex (d + 8) 28 37 [some (.ref 5), some (.int (pz_st b len N).1)] [.int (S1 18 3), .int (-1000100)] (am_hh X (am_u (am_u S1 18 2 0) 5 11 (pz_st b len N).1) L) _
    refine ax_s (pc' := 38) (st' := [.int ((-1000100) - (S1 18 3))]) rfl rfl rfl rfl ?_
    refine ax_r rfl rfl rfl ?_
    exact k2 N S1 fn r1 c2
theorem wp_m_wheel {d : Nat} {X : Nat × (Nat → Int32)} {S : Nat → Nat → Int32} {L : Nat → Int64} {b : Nat → Int32} {len : Nat} {N : Nat} {Q : Option Value → am_H → Prop} (hl : S 285 5 = nI len) (hl1 : len ≤ 100) (hb : ∀ i, i < 100 → S 289 i = b i) (fn : FN b len N)  (k1 : ∀ S1 : Nat → Nat → Int32, RM b len S S1 N → (S1 285 23) = 0 → am_ex (d + 8) 158 97 [some (.ref 285), some (.int 0)] [] (am_hh X (am_uc (am_uc (am_uc (am_u (am_u (am_u S1 285 5 0) 285 7 (S1 285 24)) 285 8 (S1 300 0)) 290 (va_cpy (S1 301) (S1 290) 0 0 6)) 291 (va_cpy (S1 302) (S1 291) 0 0 6)) 292 (va_cpy (S1 303) (S1 292) 0 0 6)) L) Q) (k2 : ∀ S1 : Nat → Nat → Int32, RM b len S S1 N → ¬ (S1 285 23) = 0 → Q (some (.int ((-1000100) - (S1 285 22)))) (am_hh X (am_u (am_u S1 285 5 0) 285 6 (S1 285 23)) L)) : am_mt (d + 8) 158 [.ref 285] (am_hh X S L) Q := by
  refine ax_in (ls := [some (.ref 285), none]) rfl ?_
  refine ax_s (pc' := 1) (st' := [.ref 285]) rfl rfl rfl rfl ?_
  refine ax_call (vs := [.ref 285]) (rr := []) rfl rfl rfl ?_
  refine mt_readWheel hl hl1 hb fn (fun S1 r1 => ?_)
  show am_ex (d + 8) 158 4 [some (.ref 285), none] [] (am_hh X S1 L) _
  refine ax_s (pc' := 5) (st' := [.ref 285]) rfl rfl rfl rfl ?_
  refine ax_s (pc' := 6) (st' := [.int 0, .ref 285]) rfl rfl rfl rfl ?_
  refine ax_put rfl (hh_285 _ _ _) rfl rfl (show 5 + 1 ≤ _ from Nat.le_of_ble_eq_true rfl) rfl (am_hh_set _ _ _ 285 5 _ rfl) ?_
  refine ax_s (pc' := 10) (st' := [.ref 285]) rfl rfl rfl rfl ?_
  refine ax_get rfl (hh_285 _ _ _) rfl rfl rfl ?_
  show am_ex (d + 8) 158 13 [some (.ref 285), none] [.int (S1 285 23)] (am_hh X (am_u S1 285 5 0) L) _
  refine ax_if_eq rfl (fun c1 => ?_) (fun c1 => ?_)
  · refine ax_s (pc' := 33) (st' := [.ref 285]) rfl rfl rfl rfl ?_
    refine ax_s (pc' := 34) (st' := [.ref 285, .ref 285]) rfl rfl rfl rfl ?_
    refine ax_get rfl (hh_285 _ _ _) rfl rfl rfl ?_
    show am_ex (d + 8) 158 37 [some (.ref 285), none] [.int (S1 285 24), .ref 285] (am_hh X (am_u S1 285 5 0) L) _
    refine ax_put rfl (hh_285 _ _ _) rfl rfl (show 7 + 1 ≤ _ from Nat.le_of_ble_eq_true rfl) rfl (am_hh_set _ _ _ 285 7 _ rfl) ?_
    refine ax_s (pc' := 41) (st' := [.ref 285]) rfl rfl rfl rfl ?_
    refine ax_s (pc' := 42) (st' := [.ref 285, .ref 285]) rfl rfl rfl rfl ?_
    refine ax_get rfl (hh_285 _ _ _) rfl rfl rfl ?_
    show am_ex (d + 8) 158 45 [some (.ref 285), none] [.ref 300, .ref 285] (am_hh X (am_u (am_u S1 285 5 0) 285 7 (S1 285 24)) L) _
    refine ax_s (pc' := 46) (st' := [.int 0, .ref 300, .ref 285]) rfl rfl rfl rfl ?_
    refine ax_ald (j := 0) (v := (S1 300 0)) rfl (hh_300 _ _ _) rfl rfl (by decide) (by decide) rfl ?_
    refine ax_put rfl (hh_285 _ _ _) rfl rfl (show 8 + 1 ≤ _ from Nat.le_of_ble_eq_true rfl) rfl (am_hh_set _ _ _ 285 8 _ rfl) ?_
    refine ax_s (pc' := 51) (st' := [.ref 285]) rfl rfl rfl rfl ?_
    refine ax_get rfl (hh_285 _ _ _) rfl rfl rfl ?_
    show am_ex (d + 8) 158 54 [some (.ref 285), none] [.ref 301] (am_hh X (am_u (am_u (am_u S1 285 5 0) 285 7 (S1 285 24)) 285 8 (S1 300 0)) L) _
    refine ax_s (pc' := 55) (st' := [.int 0, .ref 301]) rfl rfl rfl rfl ?_
    refine ax_s (pc' := 56) (st' := [.ref 285, .int 0, .ref 301]) rfl rfl rfl rfl ?_
    refine ax_get rfl (hh_285 _ _ _) rfl rfl rfl ?_
    show am_ex (d + 8) 158 59 [some (.ref 285), none] [.ref 290, .int 0, .ref 301] (am_hh X (am_u (am_u (am_u S1 285 5 0) 285 7 (S1 285 24)) 285 8 (S1 300 0)) L) _
    refine ax_s (pc' := 60) (st' := [.int 0, .ref 290, .int 0, .ref 301]) rfl rfl rfl rfl ?_
    refine ax_s (pc' := 62) (st' := [.int 6, .int 0, .ref 290, .int 0, .ref 301]) rfl rfl rfl rfl ?_
    refine ax_call (vs := [.ref 301, .int 0, .ref 290, .int 0, .int 6]) (rr := []) rfl rfl rfl ?_
    refine mt_bring 301 290 6 6 0 0 6 (fun _ => rfl) (fun _ => rfl) (by decide) (by decide) (by decide) (by decide) (Or.inl (by decide)) rfl rfl rfl (by decide) (by decide) ?_
    show am_ex (d + 8) 158 65 [some (.ref 285), none] [] (am_hh X (am_uc (am_u (am_u (am_u S1 285 5 0) 285 7 (S1 285 24)) 285 8 (S1 300 0)) 290 (va_cpy (S1 301) (S1 290) 0 0 6)) L) _
    refine ax_s (pc' := 66) (st' := [.ref 285]) rfl rfl rfl rfl ?_
    refine ax_get rfl (hh_285 _ _ _) rfl rfl rfl ?_
    show am_ex (d + 8) 158 69 [some (.ref 285), none] [.ref 302] (am_hh X (am_uc (am_u (am_u (am_u S1 285 5 0) 285 7 (S1 285 24)) 285 8 (S1 300 0)) 290 (va_cpy (S1 301) (S1 290) 0 0 6)) L) _
    refine ax_s (pc' := 70) (st' := [.int 0, .ref 302]) rfl rfl rfl rfl ?_
    refine ax_s (pc' := 71) (st' := [.ref 285, .int 0, .ref 302]) rfl rfl rfl rfl ?_
    refine ax_get rfl (hh_285 _ _ _) rfl rfl rfl ?_
    show am_ex (d + 8) 158 74 [some (.ref 285), none] [.ref 291, .int 0, .ref 302] (am_hh X (am_uc (am_u (am_u (am_u S1 285 5 0) 285 7 (S1 285 24)) 285 8 (S1 300 0)) 290 (va_cpy (S1 301) (S1 290) 0 0 6)) L) _
    refine ax_s (pc' := 75) (st' := [.int 0, .ref 291, .int 0, .ref 302]) rfl rfl rfl rfl ?_
    refine ax_s (pc' := 77) (st' := [.int 6, .int 0, .ref 291, .int 0, .ref 302]) rfl rfl rfl rfl ?_
    refine ax_call (vs := [.ref 302, .int 0, .ref 291, .int 0, .int 6]) (rr := []) rfl rfl rfl ?_
    refine mt_bring 302 291 6 6 0 0 6 (fun _ => rfl) (fun _ => rfl) (by decide) (by decide) (by decide) (by decide) (Or.inl (by decide)) rfl rfl rfl (by decide) (by decide) ?_
    show am_ex (d + 8) 158 80 [some (.ref 285), none] [] (am_hh X (am_uc (am_uc (am_u (am_u (am_u S1 285 5 0) 285 7 (S1 285 24)) 285 8 (S1 300 0)) 290 (va_cpy (S1 301) (S1 290) 0 0 6)) 291 (va_cpy (S1 302) (S1 291) 0 0 6)) L) _
    refine ax_s (pc' := 81) (st' := [.ref 285]) rfl rfl rfl rfl ?_
    refine ax_get rfl (hh_285 _ _ _) rfl rfl rfl ?_
    show am_ex (d + 8) 158 84 [some (.ref 285), none] [.ref 303] (am_hh X (am_uc (am_uc (am_u (am_u (am_u S1 285 5 0) 285 7 (S1 285 24)) 285 8 (S1 300 0)) 290 (va_cpy (S1 301) (S1 290) 0 0 6)) 291 (va_cpy (S1 302) (S1 291) 0 0 6)) L) _
    refine ax_s (pc' := 85) (st' := [.int 0, .ref 303]) rfl rfl rfl rfl ?_
    refine ax_s (pc' := 86) (st' := [.ref 285, .int 0, .ref 303]) rfl rfl rfl rfl ?_
    refine ax_get rfl (hh_285 _ _ _) rfl rfl rfl ?_
    show am_ex (d + 8) 158 89 [some (.ref 285), none] [.ref 292, .int 0, .ref 303] (am_hh X (am_uc (am_uc (am_u (am_u (am_u S1 285 5 0) 285 7 (S1 285 24)) 285 8 (S1 300 0)) 290 (va_cpy (S1 301) (S1 290) 0 0 6)) 291 (va_cpy (S1 302) (S1 291) 0 0 6)) L) _
    refine ax_s (pc' := 90) (st' := [.int 0, .ref 292, .int 0, .ref 303]) rfl rfl rfl rfl ?_
    refine ax_s (pc' := 92) (st' := [.int 6, .int 0, .ref 292, .int 0, .ref 303]) rfl rfl rfl rfl ?_
    refine ax_call (vs := [.ref 303, .int 0, .ref 292, .int 0, .int 6]) (rr := []) rfl rfl rfl ?_
    refine mt_bring 303 292 6 6 0 0 6 (fun _ => rfl) (fun _ => rfl) (by decide) (by decide) (by decide) (by decide) (Or.inl (by decide)) rfl rfl rfl (by decide) (by decide) ?_
    show am_ex (d + 8) 158 95 [some (.ref 285), none] [] (am_hh X (am_uc (am_uc (am_uc (am_u (am_u (am_u S1 285 5 0) 285 7 (S1 285 24)) 285 8 (S1 300 0)) 290 (va_cpy (S1 301) (S1 290) 0 0 6)) 291 (va_cpy (S1 302) (S1 291) 0 0 6)) 292 (va_cpy (S1 303) (S1 292) 0 0 6)) L) _
    refine ax_s (pc' := 96) (st' := [.int 0]) rfl rfl rfl rfl ?_
    refine ax_s (pc' := 97) (ls' := [some (.ref 285), some (.int 0)]) (st' := []) rfl rfl rfl rfl ?_
    exact k1 S1 r1 c1
  · refine ax_s (pc' := 17) (st' := [.ref 285]) rfl rfl rfl rfl ?_
    refine ax_s (pc' := 18) (st' := [.ref 285, .ref 285]) rfl rfl rfl rfl ?_
    refine ax_get rfl (hh_285 _ _ _) rfl rfl rfl ?_
    show am_ex (d + 8) 158 21 [some (.ref 285), none] [.int (S1 285 23), .ref 285] (am_hh X (am_u S1 285 5 0) L) _
    refine ax_put rfl (hh_285 _ _ _) rfl rfl (show 6 + 1 ≤ _ from Nat.le_of_ble_eq_true rfl) rfl (am_hh_set _ _ _ 285 6 _ rfl) ?_
    refine ax_s (pc' := 26) (st' := [.int (-1000100)]) rfl rfl rfl rfl ?_
    refine ax_s (pc' := 27) (st' := [.ref 285, .int (-1000100)]) rfl rfl rfl rfl ?_
    refine ax_get rfl (hh_285 _ _ _) rfl rfl rfl ?_
    show am_ex (d + 8) 158 30 [some (.ref 285), none] [.int (S1 285 22), .int (-1000100)] (am_hh X (am_u (am_u S1 285 5 0) 285 6 (S1 285 23)) L) _
    refine ax_s (pc' := 31) (st' := [.int ((-1000100) - (S1 285 22))]) rfl rfl rfl rfl ?_
    refine ax_r rfl rfl rfl ?_
    exact k2 S1 r1 c1
theorem wl_m_wheel1 {d : Nat} {X : Nat × (Nat → Int32)} {S : Nat → Nat → Int32} {L : Nat → Int64} {i : Nat} {Q : Option Value → am_H → Prop}  (x1 : ¬ 39 ≤ (nI i) → i < 39) (k1 : 39 ≤ (nI i) → am_ex (d + 8) 158 116 [some (.ref 285), some (.int (nI i))] [] (am_hh X S L) Q) (k2 : ¬ 39 ≤ (nI i) → am_ex (d + 8) 158 97 [some (.ref 285), some (.int (nI (i + 1)))] [] (am_hh X (am_u S 293 i 0) L) Q) : am_ex (d + 8) 158 97 [some (.ref 285), some (.int (nI i))] [] (am_hh X S L) Q := by
  refine ax_s (pc' := 98) (st' := [.int (nI i)]) rfl rfl rfl rfl ?_
  refine ax_s (pc' := 100) (st' := [.int 39, .int (nI i)]) rfl rfl rfl rfl ?_
  refine ax_cmp_ge rfl (fun c1 => ?_) (fun c1 => ?_)
  · exact k1 c1
  · refine ax_s (pc' := 104) (st' := [.ref 285]) rfl rfl rfl rfl ?_
    refine ax_get rfl (hh_285 _ _ _) rfl rfl rfl ?_
    show am_ex (d + 8) 158 107 [some (.ref 285), some (.int (nI i))] [.ref 293] (am_hh X S L) _
    refine ax_s (pc' := 108) (st' := [.int (nI i), .ref 293]) rfl rfl rfl rfl ?_
    refine ax_s (pc' := 109) (st' := [.int 0, .int (nI i), .ref 293]) rfl rfl rfl rfl ?_
    refine ax_ast (j := i) rfl (hh_293 _ _ _) rfl rfl (x1 c1) (by decide) (am_hh_set _ _ _ 293 i _ rfl) ?_
    refine ax_s (pc' := 113) (ls' := [some (.ref 285), some (.int ((nI i) + 1))]) (st' := []) rfl rfl rfl rfl ?_
    rw [nI_1]
    refine ax_s (pc' := 97) (st' := []) rfl rfl rfl rfl ?_
    exact k2 c1
theorem wl_m_wheel2 {d : Nat} {X : Nat × (Nat → Int32)} {S : Nat → Nat → Int32} {L : Nat → Int64} {x : Int32} {Q : Option Value → am_H → Prop}  (k1 : am_ex (d + 8) 158 130 [some (.ref 285), some (.int 0)] [] (am_hh X (am_u S 293 2 (S 300 1)) L) Q) : am_ex (d + 8) 158 116 [some (.ref 285), some (.int x)] [] (am_hh X S L) Q := by
  refine ax_s (pc' := 117) (st' := [.ref 285]) rfl rfl rfl rfl ?_
  refine ax_get rfl (hh_285 _ _ _) rfl rfl rfl ?_
  show am_ex (d + 8) 158 120 [some (.ref 285), some (.int x)] [.ref 293] (am_hh X S L) _
  refine ax_s (pc' := 121) (st' := [.int 2, .ref 293]) rfl rfl rfl rfl ?_
  refine ax_s (pc' := 122) (st' := [.ref 285, .int 2, .ref 293]) rfl rfl rfl rfl ?_
  refine ax_get rfl (hh_285 _ _ _) rfl rfl rfl ?_
  show am_ex (d + 8) 158 125 [some (.ref 285), some (.int x)] [.ref 300, .int 2, .ref 293] (am_hh X S L) _
  refine ax_s (pc' := 126) (st' := [.int 1, .ref 300, .int 2, .ref 293]) rfl rfl rfl rfl ?_
  refine ax_ald (j := 1) (v := (S 300 1)) rfl (hh_300 _ _ _) rfl rfl (by decide) (by decide) rfl ?_
  refine ax_ast (j := 2) rfl (hh_293 _ _ _) rfl rfl (by decide) (by decide) (am_hh_set _ _ _ 293 2 _ rfl) ?_
  refine ax_s (pc' := 129) (st' := [.int 0]) rfl rfl rfl rfl ?_
  refine ax_s (pc' := 130) (ls' := [some (.ref 285), some (.int 0)]) (st' := []) rfl rfl rfl rfl ?_
  exact k1
theorem wl_m_wheel3 {d : Nat} {X : Nat × (Nat → Int32)} {S : Nat → Nat → Int32} {L : Nat → Int64} {i : Nat} {Q : Option Value → am_H → Prop}  (x1 : ¬ 6 ≤ (nI i) → (21 + i) < 39) (k1 : 6 ≤ (nI i) → Q (some (.int (S 285 7))) (am_hh X (am_u S 285 14 0) L)) (k2 : ¬ 6 ≤ (nI i) → am_ex (d + 8) 158 130 [some (.ref 285), some (.int (nI (i + 1)))] [] (am_hh X (am_u S 293 (21 + i) (-1000000)) L) Q) : am_ex (d + 8) 158 130 [some (.ref 285), some (.int (nI i))] [] (am_hh X S L) Q := by
  refine ax_s (pc' := 131) (st' := [.int (nI i)]) rfl rfl rfl rfl ?_
  refine ax_s (pc' := 133) (st' := [.int 6, .int (nI i)]) rfl rfl rfl rfl ?_
  refine ax_cmp_ge rfl (fun c1 => ?_) (fun c1 => ?_)
  · refine ax_s (pc' := 154) (st' := [.ref 285]) rfl rfl rfl rfl ?_
    refine ax_s (pc' := 155) (st' := [.int 0, .ref 285]) rfl rfl rfl rfl ?_
    refine ax_put rfl (hh_285 _ _ _) rfl rfl (show 14 + 1 ≤ _ from Nat.le_of_ble_eq_true rfl) rfl (am_hh_set _ _ _ 285 14 _ rfl) ?_
    refine ax_s (pc' := 159) (st' := [.ref 285]) rfl rfl rfl rfl ?_
    refine ax_get rfl (hh_285 _ _ _) rfl rfl rfl ?_
    show am_ex (d + 8) 158 162 [some (.ref 285), some (.int (nI i))] [.int (S 285 7)] (am_hh X (am_u S 285 14 0) L) _
    refine ax_r rfl rfl rfl ?_
    exact k1 c1
  · refine ax_s (pc' := 137) (st' := [.ref 285]) rfl rfl rfl rfl ?_
    refine ax_get rfl (hh_285 _ _ _) rfl rfl rfl ?_
    show am_ex (d + 8) 158 140 [some (.ref 285), some (.int (nI i))] [.ref 293] (am_hh X S L) _
    refine ax_s (pc' := 142) (st' := [.int 21, .ref 293]) rfl rfl rfl rfl ?_
    refine ax_s (pc' := 143) (st' := [.int (nI i), .int 21, .ref 293]) rfl rfl rfl rfl ?_
    refine ax_s (pc' := 144) (st' := [.int (21 + (nI i)), .ref 293]) rfl rfl rfl rfl ?_
    refine ax_s (pc' := 146) (st' := [.int (-1000000), .int (21 + (nI i)), .ref 293]) rfl rfl rfl rfl ?_
    refine ax_ast (j := (21 + i)) rfl (hh_293 _ _ _) rfl (am_na (x := 21) (y := i) rfl rfl) (x1 c1) (by decide) (am_hh_set _ _ _ 293 (21 + i) _ rfl) ?_
    refine ax_s (pc' := 150) (ls' := [some (.ref 285), some (.int ((nI i) + 1))]) (st' := []) rfl rfl rfl rfl ?_
    rw [nI_1]
    refine ax_s (pc' := 130) (st' := []) rfl rfl rfl rfl ?_
    exact k2 c1
