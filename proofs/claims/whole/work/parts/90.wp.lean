theorem wl_wo1 {d : Nat} {X : Nat × (Nat → Int32)} {S : Nat → Nat → Int32} {L : Nat → Int64} {g n : Nat} {W : Nat → Nat → Int32} {V S1 : Nat → Nat → Int32} {c N m j b : Nat} {y5 y6 : Option Value} {Q : Option Value → am_H → Prop} (hR : mR W S 293 g n) (hK : JK S) (hm1 : mR V S1 298 g n) (hf1 : F8 S S1) (hb : S1 298 1 = nI b)  (x1 : (nI N) ≤ (nI j) → m < 1000) (x2 : ¬ (nI N) ≤ (nI j) → (((nI c) >>> ((((nI N) - 1) - (nI j)) &&& 31)) &&& 1) = 1 → ¬ ((nI j) - (nI j) / 2 * 2) = 0 → ¬ (S1 285 8) = 0) (x3 : ¬ (nI N) ≤ (nI j) → (((nI c) >>> ((((nI N) - 1) - (nI j)) &&& 31)) &&& 1) = 1 → ((nI j) - (nI j) / 2 * 2) = 0 → (3 + b) < 39) (k1 : (nI N) ≤ (nI j) → ∀ S2 : Nat → Nat → Int32, mR (w_it rk0 g n m V) S2 298 g n → F8 S1 S2 → Q (some (.int (w_sum ((w_it rk0 g n m V) 7) n 0 0))) (am_hh X S2 L)) (k2 : ¬ (nI N) ≤ (nI j) → ¬ (((nI c) >>> ((((nI N) - 1) - (nI j)) &&& 31)) &&& 1) = 1 → am_ex (d + 6) 211 7 [some (.ref 285), some (.int (nI c)), some (.int (nI N)), some (.int (nI m)), some (.int (nI (j + 1))), some (.int 0), some (.int (3 + (S1 298 1)))] [] (am_hh X S1 L) Q) (k3 : ¬ (nI N) ≤ (nI j) → (((nI c) >>> ((((nI N) - 1) - (nI j)) &&& 31)) &&& 1) = 1 → ¬ ((nI j) - (nI j) / 2 * 2) = 0 → am_ex (d + 6) 211 7 [some (.ref 285), some (.int (nI c)), some (.int (nI N)), some (.int (nI m)), some (.int (nI (j + 1))), some (.int 1), some (.int (3 + (S1 298 1)))] [] (am_hh X (am_u S1 298 1 (((S1 298 1) + 1) - ((S1 298 1) + 1) / (S1 285 8) * (S1 285 8))) L) Q) (k4 : ¬ (nI N) ≤ (nI j) → (((nI c) >>> ((((nI N) - 1) - (nI j)) &&& 31)) &&& 1) = 1 → ((nI j) - (nI j) / 2 * 2) = 0 → (S1 298 (3 + b)) ≤ 6 → am_ex (d + 6) 211 7 [some (.ref 285), some (.int (nI c)), some (.int (nI N)), some (.int (nI m)), some (.int (nI (j + 1))), some (.int 1), some (.int (3 + (S1 298 1)))] [] (am_hh X (am_u S1 298 (3 + b) ((S1 298 (3 + b)) + 3)) L) Q) (k5 : ¬ (nI N) ≤ (nI j) → (((nI c) >>> ((((nI N) - 1) - (nI j)) &&& 31)) &&& 1) = 1 → ((nI j) - (nI j) / 2 * 2) = 0 → ¬ (S1 298 (3 + b)) ≤ 6 → am_ex (d + 6) 211 7 [some (.ref 285), some (.int (nI c)), some (.int (nI N)), some (.int (nI m)), some (.int (nI (j + 1))), some (.int 1), some (.int (3 + (S1 298 1)))] [] (am_hh X (am_u S1 298 (3 + b) 9) L) Q) : am_ex (d + 6) 211 7 [some (.ref 285), some (.int (nI c)), some (.int (nI N)), some (.int (nI m)), some (.int (nI j)), y5, y6] [] (am_hh X S1 L) Q := by
  refine ax_s (pc' := 9) (st' := [.int (nI j)]) rfl rfl rfl rfl ?_
  refine ax_s (pc' := 10) (st' := [.int (nI N), .int (nI j)]) rfl rfl rfl rfl ?_
  refine ax_cmp_ge rfl (fun c1 => ?_) (fun c1 => ?_)
  · refine ax_s (pc' := 123) (st' := [.ref 285]) rfl rfl rfl rfl ?_
    refine ax_s (pc' := 124) (st' := [.int (nI m), .ref 285]) rfl rfl rfl rfl ?_
    refine ax_call (vs := [.ref 285, .int (nI m)]) (rr := []) rfl rfl rfl ?_
    refine mt_goes (K := m) rfl (Nat.lt_trans (x1 c1) (by decide)) (F8_K hf1 hK) hm1 (fun S2 hm2 hf2 => ?_)
    show am_ex (d + 6) 211 127 [some (.ref 285), some (.int (nI c)), some (.int (nI N)), some (.int (nI m)), some (.int (nI j)), y5, y6] [.int (w_sn rk0 g n m V 0)] (am_hh X S2 L) _
    refine ax_s (pc' := 128) (st' := []) rfl rfl rfl rfl ?_
    refine ax_s (pc' := 129) (st' := [.ref 285]) rfl rfl rfl rfl ?_
    refine ax_s (pc' := 130) (st' := [.ref 285, .ref 285]) rfl rfl rfl rfl ?_
    refine ax_get rfl (hh_285 _ _ _) rfl rfl rfl ?_
    show am_ex (d + 6) 211 133 [some (.ref 285), some (.int (nI c)), some (.int (nI N)), some (.int (nI m)), some (.int (nI j)), y5, y6] [.ref 298, .ref 285] (am_hh X S2 L) _
    refine ax_call (vs := [.ref 285, .ref 298]) (rr := []) rfl rfl rfl ?_
    refine mt_riddenOf (Or.inr rfl) hm2 ?_
    show am_ex (d + 6) 211 136 [some (.ref 285), some (.int (nI c)), some (.int (nI N)), some (.int (nI m)), some (.int (nI j)), y5, y6] [.int (w_sum ((w_it rk0 g n m V) 7) n 0 0)] (am_hh X S2 L) _
    refine ax_r rfl rfl rfl ?_
    exact k1 c1 S2 hm2 hf2
  · refine ax_s (pc' := 14) (st' := [.int (nI c)]) rfl rfl rfl rfl ?_
    refine ax_s (pc' := 15) (st' := [.int (nI N), .int (nI c)]) rfl rfl rfl rfl ?_
    refine ax_s (pc' := 16) (st' := [.int 1, .int (nI N), .int (nI c)]) rfl rfl rfl rfl ?_
    refine ax_s (pc' := 17) (st' := [.int ((nI N) - 1), .int (nI c)]) rfl rfl rfl rfl ?_
    refine ax_s (pc' := 19) (st' := [.int (nI j), .int ((nI N) - 1), .int (nI c)]) rfl rfl rfl rfl ?_
    refine ax_s (pc' := 20) (st' := [.int (((nI N) - 1) - (nI j)), .int (nI c)]) rfl rfl rfl rfl ?_
    refine ax_s (pc' := 21) (st' := [.int ((nI c) >>> ((((nI N) - 1) - (nI j)) &&& 31))]) rfl rfl rfl rfl ?_
    refine ax_s (pc' := 22) (st' := [.int 1, .int ((nI c) >>> ((((nI N) - 1) - (nI j)) &&& 31))]) rfl rfl rfl rfl ?_
    refine ax_s (pc' := 23) (st' := [.int (((nI c) >>> ((((nI N) - 1) - (nI j)) &&& 31)) &&& 1)]) rfl rfl rfl rfl ?_
    refine ax_s (pc' := 24) (st' := [.int 1, .int (((nI c) >>> ((((nI N) - 1) - (nI j)) &&& 31)) &&& 1)]) rfl rfl rfl rfl ?_
    refine ax_cmp_ne rfl (fun c3 => ?_) (fun c3 => ?_)
    · refine ax_s (pc' := 32) (st' := [.int 0]) rfl rfl rfl rfl ?_
      refine ax_s (pc' := 34) (ls' := [some (.ref 285), some (.int (nI c)), some (.int (nI N)), some (.int (nI m)), some (.int (nI j)), some (.int 0), y6]) (st' := []) rfl rfl rfl rfl ?_
      refine ax_s (pc' := 35) (st' := [.int 3]) rfl rfl rfl rfl ?_
      refine ax_s (pc' := 36) (st' := [.ref 285, .int 3]) rfl rfl rfl rfl ?_
      refine ax_get rfl (hh_285 _ _ _) rfl rfl rfl ?_
      show am_ex (d + 6) 211 39 [some (.ref 285), some (.int (nI c)), some (.int (nI N)), some (.int (nI m)), some (.int (nI j)), some (.int 0), y6] [.ref 298, .int 3] (am_hh X S1 L) _
      refine ax_s (pc' := 40) (st' := [.int 1, .ref 298, .int 3]) rfl rfl rfl rfl ?_
      refine ax_ald (j := 1) (v := (S1 298 1)) rfl (hh_298 _ _ _) rfl rfl (by decide) (by decide) rfl ?_
      refine ax_s (pc' := 42) (st' := [.int (3 + (S1 298 1))]) rfl rfl rfl rfl ?_
      refine ax_s (pc' := 44) (ls' := [some (.ref 285), some (.int (nI c)), some (.int (nI N)), some (.int (nI m)), some (.int (nI j)), some (.int 0), some (.int (3 + (S1 298 1)))]) (st' := []) rfl rfl rfl rfl ?_
      refine ax_s (pc' := 46) (st' := [.int 0]) rfl rfl rfl rfl ?_
      refine ax_if_eq rfl (fun c4 => ?_) (fun c4 => False.elim (by revert c4; decide))
      refine ax_s (pc' := 94) (st' := [.int 0]) rfl rfl rfl rfl ?_
      refine ax_if_eq rfl (fun c5 => ?_) (fun c5 => False.elim (by revert c5; decide))
      refine ax_s (pc' := 119) (ls' := [some (.ref 285), some (.int (nI c)), some (.int (nI N)), some (.int (nI m)), some (.int ((nI j) + 1)), some (.int 0), some (.int (3 + (S1 298 1)))]) (st' := []) rfl rfl rfl rfl ?_
      rw [nI_1]
      refine ax_s (pc' := 7) (st' := []) rfl rfl rfl rfl ?_
      exact k2 c1 c3
    · refine ax_s (pc' := 28) (st' := [.int 1]) rfl rfl rfl rfl ?_
      refine ax_s (pc' := 32) (st' := [.int 1]) rfl rfl rfl rfl ?_
      refine ax_s (pc' := 34) (ls' := [some (.ref 285), some (.int (nI c)), some (.int (nI N)), some (.int (nI m)), some (.int (nI j)), some (.int 1), y6]) (st' := []) rfl rfl rfl rfl ?_
      refine ax_s (pc' := 35) (st' := [.int 3]) rfl rfl rfl rfl ?_
      refine ax_s (pc' := 36) (st' := [.ref 285, .int 3]) rfl rfl rfl rfl ?_
      refine ax_get rfl (hh_285 _ _ _) rfl rfl rfl ?_
      show am_ex (d + 6) 211 39 [some (.ref 285), some (.int (nI c)), some (.int (nI N)), some (.int (nI m)), some (.int (nI j)), some (.int 1), y6] [.ref 298, .int 3] (am_hh X S1 L) _
      refine ax_s (pc' := 40) (st' := [.int 1, .ref 298, .int 3]) rfl rfl rfl rfl ?_
      refine ax_ald (j := 1) (v := (S1 298 1)) rfl (hh_298 _ _ _) rfl rfl (by decide) (by decide) rfl ?_
      refine ax_s (pc' := 42) (st' := [.int (3 + (S1 298 1))]) rfl rfl rfl rfl ?_
      refine ax_s (pc' := 44) (ls' := [some (.ref 285), some (.int (nI c)), some (.int (nI N)), some (.int (nI m)), some (.int (nI j)), some (.int 1), some (.int (3 + (S1 298 1)))]) (st' := []) rfl rfl rfl rfl ?_
      refine ax_s (pc' := 46) (st' := [.int 1]) rfl rfl rfl rfl ?_
      refine ax_if_eq rfl (fun c6 => False.elim (by revert c6; decide)) (fun c6 => ?_)
      refine ax_s (pc' := 51) (st' := [.int (nI j)]) rfl rfl rfl rfl ?_
      refine ax_s (pc' := 52) (st' := [.int 2, .int (nI j)]) rfl rfl rfl rfl ?_
      refine ax_irem rfl (by decide) ?_
      refine ax_if_ne rfl (fun c7 => ?_) (fun c7 => ?_)
      · refine ax_s (pc' := 94) (st' := [.int 1]) rfl rfl rfl rfl ?_
        refine ax_if_eq rfl (fun c8 => False.elim (by revert c8; decide)) (fun c8 => ?_)
        refine ax_s (pc' := 98) (st' := [.ref 285]) rfl rfl rfl rfl ?_
        refine ax_get rfl (hh_285 _ _ _) rfl rfl rfl ?_
        show am_ex (d + 6) 211 101 [some (.ref 285), some (.int (nI c)), some (.int (nI N)), some (.int (nI m)), some (.int (nI j)), some (.int 1), some (.int (3 + (S1 298 1)))] [.ref 298] (am_hh X S1 L) _
        refine ax_s (pc' := 102) (st' := [.int 1, .ref 298]) rfl rfl rfl rfl ?_
        refine ax_s (pc' := 103) (st' := [.ref 285, .int 1, .ref 298]) rfl rfl rfl rfl ?_
        refine ax_get rfl (hh_285 _ _ _) rfl rfl rfl ?_
        show am_ex (d + 6) 211 106 [some (.ref 285), some (.int (nI c)), some (.int (nI N)), some (.int (nI m)), some (.int (nI j)), some (.int 1), some (.int (3 + (S1 298 1)))] [.ref 298, .int 1, .ref 298] (am_hh X S1 L) _
        refine ax_s (pc' := 107) (st' := [.int 1, .ref 298, .int 1, .ref 298]) rfl rfl rfl rfl ?_
        refine ax_ald (j := 1) (v := (S1 298 1)) rfl (hh_298 _ _ _) rfl rfl (by decide) (by decide) rfl ?_
        refine ax_s (pc' := 109) (st' := [.int 1, .int (S1 298 1), .int 1, .ref 298]) rfl rfl rfl rfl ?_
        refine ax_s (pc' := 110) (st' := [.int ((S1 298 1) + 1), .int 1, .ref 298]) rfl rfl rfl rfl ?_
        refine ax_s (pc' := 111) (st' := [.ref 285, .int ((S1 298 1) + 1), .int 1, .ref 298]) rfl rfl rfl rfl ?_
        refine ax_get rfl (hh_285 _ _ _) rfl rfl rfl ?_
        show am_ex (d + 6) 211 114 [some (.ref 285), some (.int (nI c)), some (.int (nI N)), some (.int (nI m)), some (.int (nI j)), some (.int 1), some (.int (3 + (S1 298 1)))] [.int (S1 285 8), .int ((S1 298 1) + 1), .int 1, .ref 298] (am_hh X S1 L) _
        refine ax_irem rfl (x2 c1 c3 c7) ?_
        refine ax_ast (j := 1) rfl (hh_298 _ _ _) rfl rfl (by decide) (by decide) (am_hh_set _ _ _ 298 1 _ rfl) ?_
        refine ax_s (pc' := 119) (ls' := [some (.ref 285), some (.int (nI c)), some (.int (nI N)), some (.int (nI m)), some (.int ((nI j) + 1)), some (.int 1), some (.int (3 + (S1 298 1)))]) (st' := []) rfl rfl rfl rfl ?_
        rw [nI_1]
        refine ax_s (pc' := 7) (st' := []) rfl rfl rfl rfl ?_
        exact k3 c1 c3 c7
      · refine ax_s (pc' := 57) (st' := [.ref 285]) rfl rfl rfl rfl ?_
        refine ax_get rfl (hh_285 _ _ _) rfl rfl rfl ?_
        show am_ex (d + 6) 211 60 [some (.ref 285), some (.int (nI c)), some (.int (nI N)), some (.int (nI m)), some (.int (nI j)), some (.int 1), some (.int (3 + (S1 298 1)))] [.ref 298] (am_hh X S1 L) _
        refine ax_s (pc' := 62) (st' := [.int (3 + (S1 298 1)), .ref 298]) rfl rfl rfl rfl ?_
        refine ax_s (pc' := 63) (st' := [.ref 285, .int (3 + (S1 298 1)), .ref 298]) rfl rfl rfl rfl ?_
        refine ax_get rfl (hh_285 _ _ _) rfl rfl rfl ?_
        show am_ex (d + 6) 211 66 [some (.ref 285), some (.int (nI c)), some (.int (nI N)), some (.int (nI m)), some (.int (nI j)), some (.int 1), some (.int (3 + (S1 298 1)))] [.ref 298, .int (3 + (S1 298 1)), .ref 298] (am_hh X S1 L) _
        refine ax_s (pc' := 68) (st' := [.int (3 + (S1 298 1)), .ref 298, .int (3 + (S1 298 1)), .ref 298]) rfl rfl rfl rfl ?_
        refine ax_ald (j := (3 + b)) (v := (S1 298 (3 + b))) rfl (hh_298 _ _ _) rfl (am_na (x := 3) (y := b) rfl hb) (x3 c1 c3 c7) (by decide) rfl ?_
        refine ax_s (pc' := 71) (st' := [.int 6, .int (S1 298 (3 + b)), .int (3 + (S1 298 1)), .ref 298]) rfl rfl rfl rfl ?_
        refine ax_cmp_le rfl (fun c9 => ?_) (fun c9 => ?_)
        · refine ax_s (pc' := 80) (st' := [.ref 285, .int (3 + (S1 298 1)), .ref 298]) rfl rfl rfl rfl ?_
          refine ax_get rfl (hh_285 _ _ _) rfl rfl rfl ?_
          show am_ex (d + 6) 211 83 [some (.ref 285), some (.int (nI c)), some (.int (nI N)), some (.int (nI m)), some (.int (nI j)), some (.int 1), some (.int (3 + (S1 298 1)))] [.ref 298, .int (3 + (S1 298 1)), .ref 298] (am_hh X S1 L) _
          refine ax_s (pc' := 85) (st' := [.int (3 + (S1 298 1)), .ref 298, .int (3 + (S1 298 1)), .ref 298]) rfl rfl rfl rfl ?_
          refine ax_ald (j := (3 + b)) (v := (S1 298 (3 + b))) rfl (hh_298 _ _ _) rfl (am_na (x := 3) (y := b) rfl hb) (x3 c1 c3 c7) (by decide) rfl ?_
          refine ax_s (pc' := 87) (st' := [.int 3, .int (S1 298 (3 + b)), .int (3 + (S1 298 1)), .ref 298]) rfl rfl rfl rfl ?_
          refine ax_s (pc' := 88) (st' := [.int ((S1 298 (3 + b)) + 3), .int (3 + (S1 298 1)), .ref 298]) rfl rfl rfl rfl ?_
          refine ax_ast (j := (3 + b)) rfl (hh_298 _ _ _) rfl (am_na (x := 3) (y := b) rfl hb) (x3 c1 c3 c7) (by decide) (am_hh_set _ _ _ 298 (3 + b) _ rfl) ?_
          refine ax_s (pc' := 116) (st' := []) rfl rfl rfl rfl ?_
          refine ax_s (pc' := 119) (ls' := [some (.ref 285), some (.int (nI c)), some (.int (nI N)), some (.int (nI m)), some (.int ((nI j) + 1)), some (.int 1), some (.int (3 + (S1 298 1)))]) (st' := []) rfl rfl rfl rfl ?_
          rw [nI_1]
          refine ax_s (pc' := 7) (st' := []) rfl rfl rfl rfl ?_
          exact k4 c1 c3 c7 c9
        · refine ax_s (pc' := 76) (st' := [.int 9, .int (3 + (S1 298 1)), .ref 298]) rfl rfl rfl rfl ?_
          refine ax_s (pc' := 88) (st' := [.int 9, .int (3 + (S1 298 1)), .ref 298]) rfl rfl rfl rfl ?_
          refine ax_ast (j := (3 + b)) rfl (hh_298 _ _ _) rfl (am_na (x := 3) (y := b) rfl hb) (x3 c1 c3 c7) (by decide) (am_hh_set _ _ _ 298 (3 + b) _ rfl) ?_
          refine ax_s (pc' := 116) (st' := []) rfl rfl rfl rfl ?_
          refine ax_s (pc' := 119) (ls' := [some (.ref 285), some (.int (nI c)), some (.int (nI N)), some (.int (nI m)), some (.int ((nI j) + 1)), some (.int 1), some (.int (3 + (S1 298 1)))]) (st' := []) rfl rfl rfl rfl ?_
          rw [nI_1]
          refine ax_s (pc' := 7) (st' := []) rfl rfl rfl rfl ?_
          exact k5 c1 c3 c7 c9
theorem wp_wo {d : Nat} {X : Nat × (Nat → Int32)} {S : Nat → Nat → Int32} {L : Nat → Int64} {g n : Nat} {W : Nat → Nat → Int32} {c N m : Nat} {Q : Option Value → am_H → Prop} (hR : mR W S 293 g n) (hK : JK S)  (k1 : ∀ S1 : Nat → Nat → Int32, mR W S1 298 g n → F8 S S1 → am_ex (d + 6) 211 7 [some (.ref 285), some (.int (nI c)), some (.int (nI N)), some (.int (nI m)), some (.int 0), none, none] [] (am_hh X S1 L) Q) : am_mt (d + 6) 211 [.ref 285, .int (nI c), .int (nI N), .int (nI m)] (am_hh X S L) Q := by
  refine ax_in (ls := [some (.ref 285), some (.int (nI c)), some (.int (nI N)), some (.int (nI m)), none, none, none]) rfl ?_
  refine ax_s (pc' := 1) (st' := [.ref 285]) rfl rfl rfl rfl ?_
  refine ax_call (vs := [.ref 285]) (rr := []) rfl rfl rfl ?_
  refine mt_asItIs' (F8_m F8_r hR) (fun S1 hm1 hf1 => ?_)
  show am_ex (d + 6) 211 4 [some (.ref 285), some (.int (nI c)), some (.int (nI N)), some (.int (nI m)), none, none, none] [] (am_hh X S1 L) _
  refine ax_s (pc' := 5) (st' := [.int 0]) rfl rfl rfl rfl ?_
  refine ax_s (pc' := 7) (ls' := [some (.ref 285), some (.int (nI c)), some (.int (nI N)), some (.int (nI m)), some (.int 0), none, none]) (st' := []) rfl rfl rfl rfl ?_
  exact k1 S1 hm1 hf1
