theorem wp_readInto {d : Nat} {X : Nat × (Nat → Int32)} {S : Nat → Nat → Int32} {L : Nat → Int64} {b : Nat → Int32} {len : Nat} {Q : Option Value → am_H → Prop} (hT : TP b len (am_u (am_u S 18 3 0) 18 1 0) (0, 0)) (hc : w_cl (am_sub (am_u (am_u S 18 3 0) 18 1 0) 29))  (k1 : ∀ S1 : Nat → Nat → Int32, RI b len (am_u (am_u S 18 3 0) 18 1 0) S1 0 → ∀ S2 : Nat → Nat → Int32, RI b len (am_u (am_u S 18 3 0) 18 1 0) S2 1 → am_ex (d + 6) 29 22 [some (.ref 18), some (.ref 29), some (.int 0)] [] (am_hh X S2 L) Q) : am_mt (d + 6) 29 [.ref 18, .ref 29] (am_hh X S L) Q := by
  refine ax_in (ls := [some (.ref 18), some (.ref 29), none]) rfl ?_
  refine ax_s (pc' := 1) (st' := [.ref 18]) rfl rfl rfl rfl ?_
  refine ax_s (pc' := 2) (st' := [.int 0, .ref 18]) rfl rfl rfl rfl ?_
  refine ax_put rfl (hh_18 _ _ _) rfl rfl (show 3 + 1 ≤ _ from Nat.le_of_ble_eq_true rfl) rfl (am_hh_set _ _ _ 18 3 _ rfl) ?_
  refine ax_s (pc' := 6) (st' := [.ref 18]) rfl rfl rfl rfl ?_
  refine ax_s (pc' := 7) (st' := [.int 0, .ref 18]) rfl rfl rfl rfl ?_
  refine ax_put rfl (hh_18 _ _ _) rfl rfl (show 1 + 1 ≤ _ from Nat.le_of_ble_eq_true rfl) rfl (am_hh_set _ _ _ 18 1 _ rfl) ?_
  refine ax_s (pc' := 11) (st' := [.ref 18]) rfl rfl rfl rfl ?_
  refine ax_s (pc' := 12) (st' := [.ref 29, .ref 18]) rfl rfl rfl rfl ?_
  refine ax_call (vs := [.ref 18, .ref 29]) (rr := []) rfl rfl rfl ?_
  refine kt_rl hT hc (fun S1 r1 => ?_)
  show am_ex (d + 6) 29 15 [some (.ref 18), some (.ref 29), none] [] (am_hh X S1 L) _
  refine ax_s (pc' := 16) (st' := [.ref 18]) rfl rfl rfl rfl ?_
  refine ax_s (pc' := 17) (st' := [.ref 29, .ref 18]) rfl rfl rfl rfl ?_
  refine ax_call (vs := [.ref 18, .ref 29]) (rr := []) rfl rfl rfl ?_
  refine kt_rp r1 (fun S2 r2 => ?_)
  show am_ex (d + 6) 29 20 [some (.ref 18), some (.ref 29), none] [] (am_hh X S2 L) _
  refine ax_s (pc' := 21) (st' := [.int 0]) rfl rfl rfl rfl ?_
  refine ax_s (pc' := 22) (ls' := [some (.ref 18), some (.ref 29), some (.int 0)]) (st' := []) rfl rfl rfl rfl ?_
  exact k1 S1 r1 S2 r2
theorem wl_readInto {d : Nat} {X : Nat × (Nat → Int32)} {S : Nat → Nat → Int32} {L : Nat → Int64} {b : Nat → Int32} {len : Nat} {i : Nat} {S0 : Nat → Nat → Int32} {Q : Option Value → am_H → Prop} (hr : RI b len S0 S (i + 1))  (k1 : 6 ≤ (nI i) → Q (some (.int (S 18 1))) (am_hh X S L)) (k2 : ¬ 6 ≤ (nI i) → ¬ (S 18 1) = 0 → Q (some (.int (S 18 1))) (am_hh X S L)) (k3 : ¬ 6 ≤ (nI i) → (S 18 1) = 0 → (S 18 2) ≤ (S 18 3) → Q (some (.int (S 18 1))) (am_hh X S L)) (k4 : ¬ 6 ≤ (nI i) → (S 18 1) = 0 → ¬ (S 18 2) ≤ (S 18 3) → ∀ S4 : Nat → Nat → Int32, RI b len S0 S4 ((i + 1) + 1) → am_ex (d + 6) 29 22 [some (.ref 18), some (.ref 29), some (.int (nI (i + 1)))] [] (am_hh X S4 L) Q) : am_ex (d + 6) 29 22 [some (.ref 18), some (.ref 29), some (.int (nI i))] [] (am_hh X S L) Q := by
  refine ax_s (pc' := 23) (st' := [.int (nI i)]) rfl rfl rfl rfl ?_
  refine ax_s (pc' := 25) (st' := [.int 6, .int (nI i)]) rfl rfl rfl rfl ?_
  refine ax_cmp_ge rfl (fun c1 => ?_) (fun c1 => ?_)
  · refine ax_s (pc' := 58) (st' := [.ref 18]) rfl rfl rfl rfl ?_
    refine ax_get rfl (hh_18 _ _ _) rfl rfl rfl ?_
    show am_ex (d + 6) 29 61 [some (.ref 18), some (.ref 29), some (.int (nI i))] [.int (S 18 1)] (am_hh X S L) _
    refine ax_r rfl rfl rfl ?_
    exact k1 c1
  · refine ax_s (pc' := 29) (st' := [.ref 18]) rfl rfl rfl rfl ?_
    refine ax_get rfl (hh_18 _ _ _) rfl rfl rfl ?_
    show am_ex (d + 6) 29 32 [some (.ref 18), some (.ref 29), some (.int (nI i))] [.int (S 18 1)] (am_hh X S L) _
    refine ax_if_ne rfl (fun c2 => ?_) (fun c2 => ?_)
    · refine ax_s (pc' := 58) (st' := [.ref 18]) rfl rfl rfl rfl ?_
      refine ax_get rfl (hh_18 _ _ _) rfl rfl rfl ?_
      show am_ex (d + 6) 29 61 [some (.ref 18), some (.ref 29), some (.int (nI i))] [.int (S 18 1)] (am_hh X S L) _
      refine ax_r rfl rfl rfl ?_
      exact k2 c1 c2
    · refine ax_s (pc' := 36) (st' := [.ref 18]) rfl rfl rfl rfl ?_
      refine ax_get rfl (hh_18 _ _ _) rfl rfl rfl ?_
      show am_ex (d + 6) 29 39 [some (.ref 18), some (.ref 29), some (.int (nI i))] [.int (S 18 3)] (am_hh X S L) _
      refine ax_s (pc' := 40) (st' := [.ref 18, .int (S 18 3)]) rfl rfl rfl rfl ?_
      refine ax_get rfl (hh_18 _ _ _) rfl rfl rfl ?_
      show am_ex (d + 6) 29 43 [some (.ref 18), some (.ref 29), some (.int (nI i))] [.int (S 18 2), .int (S 18 3)] (am_hh X S L) _
      refine ax_cmp_ge rfl (fun c3 => ?_) (fun c3 => ?_)
      · refine ax_s (pc' := 58) (st' := [.ref 18]) rfl rfl rfl rfl ?_
        refine ax_get rfl (hh_18 _ _ _) rfl rfl rfl ?_
        show am_ex (d + 6) 29 61 [some (.ref 18), some (.ref 29), some (.int (nI i))] [.int (S 18 1)] (am_hh X S L) _
        refine ax_r rfl rfl rfl ?_
        exact k3 c1 c2 c3
      · refine ax_s (pc' := 47) (st' := [.ref 18]) rfl rfl rfl rfl ?_
        refine ax_s (pc' := 48) (st' := [.ref 29, .ref 18]) rfl rfl rfl rfl ?_
        refine ax_call (vs := [.ref 18, .ref 29]) (rr := []) rfl rfl rfl ?_
        refine kt_rp hr (fun S4 r4 => ?_)
        show am_ex (d + 6) 29 51 [some (.ref 18), some (.ref 29), some (.int (nI i))] [] (am_hh X S4 L) _
        refine ax_s (pc' := 54) (ls' := [some (.ref 18), some (.ref 29), some (.int ((nI i) + 1))]) (st' := []) rfl rfl rfl rfl ?_
        rw [nI_1]
        refine ax_s (pc' := 22) (st' := []) rfl rfl rfl rfl ?_
        exact k4 c1 c2 c3 S4 r4
theorem wl_readWheel {d : Nat} {X : Nat × (Nat → Int32)} {S : Nat → Nat → Int32} {L : Nat → Int64} {b : Nat → Int32} {len : Nat} {j : Nat} {S0 : Nat → Nat → Int32} {Q : Option Value → am_H → Prop} (hr : RM b len S0 S j)  (x1 : (S 285 23) = 0 → (S 285 24) = 0 → (pz_st b len j).1 = 0) (x2 : (S 285 23) = 0 → ¬ (S 285 24) = 0 → ¬ (S 285 5) ≤ (S 285 21) → (pz_st b len j).1 = 0) (k1 : ¬ (S 285 23) = 0 → Q none (am_hh X S L)) (k2 : (S 285 23) = 0 → (S 285 24) = 0 → ∀ S3 : Nat → Nat → Int32, RM b len S0 S3 (j + 1) → am_ex (d + 6) 159 59 [some (.ref 285)] [] (am_hh X S3 L) Q) (k3 : (S 285 23) = 0 → ¬ (S 285 24) = 0 → (S 285 5) ≤ (S 285 21) → Q none (am_hh X S L)) (k4 : (S 285 23) = 0 → ¬ (S 285 24) = 0 → ¬ (S 285 5) ≤ (S 285 21) → ∀ S5 : Nat → Nat → Int32, RM b len S0 S5 (j + 1) → am_ex (d + 6) 159 59 [some (.ref 285)] [] (am_hh X S5 L) Q) : am_ex (d + 6) 159 59 [some (.ref 285)] [] (am_hh X S L) Q := by
  refine ax_s (pc' := 60) (st' := [.ref 285]) rfl rfl rfl rfl ?_
  refine ax_get rfl (hh_285 _ _ _) rfl rfl rfl ?_
  show am_ex (d + 6) 159 63 [some (.ref 285)] [.int (S 285 23)] (am_hh X S L) _
  refine ax_if_ne rfl (fun c1 => ?_) (fun c1 => ?_)
  · refine ax_r rfl rfl rfl ?_
    exact k1 c1
  · refine ax_s (pc' := 67) (st' := [.ref 285]) rfl rfl rfl rfl ?_
    refine ax_get rfl (hh_285 _ _ _) rfl rfl rfl ?_
    show am_ex (d + 6) 159 70 [some (.ref 285)] [.int (S 285 24)] (am_hh X S L) _
    refine ax_if_eq rfl (fun c2 => ?_) (fun c2 => ?_)
    · refine ax_s (pc' := 85) (st' := [.ref 285]) rfl rfl rfl rfl ?_
      refine ax_call (vs := [.ref 285]) (rr := []) rfl rfl rfl ?_
      refine mt_rp hr (x1 c1 c2) (fun S3 r3 => ?_)
      show am_ex (d + 6) 159 88 [some (.ref 285)] [] (am_hh X S3 L) _
      refine ax_s (pc' := 59) (st' := []) rfl rfl rfl rfl ?_
      exact k2 c1 c2 S3 r3
    · refine ax_s (pc' := 74) (st' := [.ref 285]) rfl rfl rfl rfl ?_
      refine ax_get rfl (hh_285 _ _ _) rfl rfl rfl ?_
      show am_ex (d + 6) 159 77 [some (.ref 285)] [.int (S 285 21)] (am_hh X S L) _
      refine ax_s (pc' := 78) (st' := [.ref 285, .int (S 285 21)]) rfl rfl rfl rfl ?_
      refine ax_get rfl (hh_285 _ _ _) rfl rfl rfl ?_
      show am_ex (d + 6) 159 81 [some (.ref 285)] [.int (S 285 5), .int (S 285 21)] (am_hh X S L) _
      refine ax_cmp_ge rfl (fun c4 => ?_) (fun c4 => ?_)
      · refine ax_r rfl rfl rfl ?_
        exact k3 c1 c2 c4
      · refine ax_s (pc' := 85) (st' := [.ref 285]) rfl rfl rfl rfl ?_
        refine ax_call (vs := [.ref 285]) (rr := []) rfl rfl rfl ?_
        refine mt_rp hr (x2 c1 c2 c4) (fun S5 r5 => ?_)
        show am_ex (d + 6) 159 88 [some (.ref 285)] [] (am_hh X S5 L) _
        refine ax_s (pc' := 59) (st' := []) rfl rfl rfl rfl ?_
        exact k4 c1 c2 c4 S5 r5
