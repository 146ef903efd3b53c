theorem lm_loses_293 {d : Nat} {X : Nat × (Nat → Int32)} {L : Nat → Int64} {n : Nat} {Q : Option Value → am_H → Prop} (hn6 : n ≤ 6)  : ∀ (k j : Nat) (x3 : Option Value) (S1 : Nat → Nat → Int32), j + k = n → (S1 285 7 = nI n ∧ Q none (am_hh X (m_ls 293 k j S1) L)) → am_ex d 182 2 [some (.ref 285), some (.ref 293), some (.int (nI j)), x3] [] (am_hh X S1 L) Q
  | 0, j, x3, S1, hj, hQ => by
    refine ax_s (pc' := 3) (st' := [.int (nI j)]) rfl rfl rfl rfl ?_
    refine ax_s (pc' := 4) (st' := [.ref 285, .int (nI j)]) rfl rfl rfl rfl ?_
    refine ax_get rfl (hh_285 _ _ _) rfl rfl rfl ?_
    show am_ex d 182 7 [some (.ref 285), some (.ref 293), some (.int (nI j)), x3] [.int (S1 285 7), .int (nI j)] (am_hh X S1 L) _
    refine ax_cmp_ge rfl (fun c7 => ?_) (fun c7 => absurd (by rw [hQ.1]; exact nI_le (by omega) (by omega)) c7)
    refine ax_r rfl rfl rfl ?_
    exact hQ.2
  | k + 1, j, x3, S1, hj, hQ => by
    refine ax_s (pc' := 3) (st' := [.int (nI j)]) rfl rfl rfl rfl ?_
    refine ax_s (pc' := 4) (st' := [.ref 285, .int (nI j)]) rfl rfl rfl rfl ?_
    refine ax_get rfl (hh_285 _ _ _) rfl rfl rfl ?_
    show am_ex d 182 7 [some (.ref 285), some (.ref 293), some (.int (nI j)), x3] [.int (S1 285 7), .int (nI j)] (am_hh X S1 L) _
    refine ax_cmp_ge rfl (fun c7 => absurd c7 (by rw [hQ.1]; exact nI_ge (by omega) (by omega))) (fun c7 => ?_)
    refine ax_s (pc' := 11) (st' := [.ref 293]) rfl rfl rfl rfl ?_
    refine ax_s (pc' := 13) (st' := [.int 15, .ref 293]) rfl rfl rfl rfl ?_
    refine ax_s (pc' := 14) (st' := [.int (nI j), .int 15, .ref 293]) rfl rfl rfl rfl ?_
    refine ax_s (pc' := 15) (st' := [.int (15 + (nI j)), .ref 293]) rfl rfl rfl rfl ?_
    refine ax_ald (j := (15 + j)) (v := (S1 293 (15 + j))) rfl (hh_293 _ _ _) rfl (am_na (x := 15) (y := j) rfl rfl) (by omega) (by decide) rfl ?_
    refine ax_if_ne rfl (fun c16 => ?_) (fun c16 => ?_)
    · refine ax_s (pc' := 93) (ls' := [some (.ref 285), some (.ref 293), some (.int ((nI j) + 1)), x3]) (st' := []) rfl rfl rfl rfl ?_
      rw [nI_1]
      refine ax_s (pc' := 2) (st' := []) rfl rfl rfl rfl ?_
      have e : m_l1 S1 293 j = S1 := by first | (simp [m_l1, m_gs, (show am_u S1 293 (33 + j) (S1 293 (33 + j) + 1) 290 j = S1 290 j from rfl), c16]; done) | exact absurd (c36.symm.trans c56) (by decide)
      refine lm_loses_293 hn6 k (j + 1) _ _ (by omega) ⟨?_, ?_⟩
      · rw [← e, m_l1_ne _ _ _ (by decide)]; exact hQ.1
      · rw [← e]; exact hQ.2
    · refine ax_s (pc' := 20) (st' := [.ref 293]) rfl rfl rfl rfl ?_
      refine ax_s (pc' := 22) (st' := [.int 33, .ref 293]) rfl rfl rfl rfl ?_
      refine ax_s (pc' := 23) (st' := [.int (nI j), .int 33, .ref 293]) rfl rfl rfl rfl ?_
      refine ax_s (pc' := 24) (st' := [.int (33 + (nI j)), .ref 293]) rfl rfl rfl rfl ?_
      refine ax_s (pc' := 25) (st' := [.int (33 + (nI j)), .ref 293, .int (33 + (nI j)), .ref 293]) rfl rfl rfl rfl ?_
      refine ax_ald (j := (33 + j)) (v := (S1 293 (33 + j))) rfl (hh_293 _ _ _) rfl (am_na (x := 33) (y := j) rfl rfl) (by omega) (by decide) rfl ?_
      refine ax_s (pc' := 27) (st' := [.int 1, .int (S1 293 (33 + j)), .int (33 + (nI j)), .ref 293]) rfl rfl rfl rfl ?_
      refine ax_s (pc' := 28) (st' := [.int ((S1 293 (33 + j)) + 1), .int (33 + (nI j)), .ref 293]) rfl rfl rfl rfl ?_
      refine ax_ast (j := (33 + j)) rfl (hh_293 _ _ _) rfl (am_na (x := 33) (y := j) rfl rfl) (by omega) (by decide) (am_hh_set _ _ _ 293 (33 + j) _ rfl) ?_
      refine ax_s (pc' := 30) (st' := [.ref 285]) rfl rfl rfl rfl ?_
      refine ax_get rfl (hh_285 _ _ _) rfl rfl rfl ?_
      show am_ex d 182 33 [some (.ref 285), some (.ref 293), some (.int (nI j)), x3] [.ref 290] (am_hh X (am_u S1 293 (33 + j) ((S1 293 (33 + j)) + 1)) L) _
      refine ax_s (pc' := 34) (st' := [.int (nI j), .ref 290]) rfl rfl rfl rfl ?_
      refine ax_ald (j := j) (v := (S1 290 j)) rfl (hh_290 _ _ _) rfl rfl (by omega) (by decide) rfl ?_
      refine ax_s (pc' := 36) (st' := [.int 4, .int (S1 290 j)]) rfl rfl rfl rfl ?_
      refine ax_cmp_ne rfl (fun c36 => ?_) (fun c36 => ?_)
      · refine ax_s (pc' := 50) (st' := [.ref 285]) rfl rfl rfl rfl ?_
        refine ax_get rfl (hh_285 _ _ _) rfl rfl rfl ?_
        show am_ex d 182 53 [some (.ref 285), some (.ref 293), some (.int (nI j)), x3] [.ref 290] (am_hh X (am_u S1 293 (33 + j) ((S1 293 (33 + j)) + 1)) L) _
        refine ax_s (pc' := 54) (st' := [.int (nI j), .ref 290]) rfl rfl rfl rfl ?_
        refine ax_ald (j := j) (v := (S1 290 j)) rfl (hh_290 _ _ _) rfl rfl (by omega) (by decide) rfl ?_
        refine ax_s (pc' := 56) (st' := [.int 5, .int (S1 290 j)]) rfl rfl rfl rfl ?_
        refine ax_cmp_ne rfl (fun c56 => ?_) (fun c56 => ?_)
        · refine ax_s (pc' := 74) (st' := [.int 0]) rfl rfl rfl rfl ?_
          refine ax_s (pc' := 75) (ls' := [some (.ref 285), some (.ref 293), some (.int (nI j)), some (.int 0)]) (st' := []) rfl rfl rfl rfl ?_
          refine ax_s (pc' := 76) (st' := [.ref 293]) rfl rfl rfl rfl ?_
          refine ax_s (pc' := 78) (st' := [.int 15, .ref 293]) rfl rfl rfl rfl ?_
          refine ax_s (pc' := 79) (st' := [.int (nI j), .int 15, .ref 293]) rfl rfl rfl rfl ?_
          refine ax_s (pc' := 80) (st' := [.int (15 + (nI j)), .ref 293]) rfl rfl rfl rfl ?_
          refine ax_s (pc' := 81) (st' := [.int 0, .int (15 + (nI j)), .ref 293]) rfl rfl rfl rfl ?_
          refine ax_if_eq rfl (fun c81 => ?_) (fun c81 => False.elim (by revert c81; decide))
          refine ax_s (pc' := 89) (st' := [.int 0, .int (15 + (nI j)), .ref 293]) rfl rfl rfl rfl ?_
          refine ax_ast (j := (15 + j)) rfl (hh_293 _ _ _) rfl (am_na (x := 15) (y := j) rfl rfl) (by omega) (by decide) (am_hh_set _ _ _ 293 (15 + j) _ rfl) ?_
          refine ax_s (pc' := 93) (ls' := [some (.ref 285), some (.ref 293), some (.int ((nI j) + 1)), some (.int 0)]) (st' := []) rfl rfl rfl rfl ?_
          rw [nI_1]
          refine ax_s (pc' := 2) (st' := []) rfl rfl rfl rfl ?_
          have e : m_l1 S1 293 j = (am_u (am_u S1 293 (33 + j) ((S1 293 (33 + j)) + 1)) 293 (15 + j) 0) := by first | (simp [m_l1, m_gs, (show am_u S1 293 (33 + j) (S1 293 (33 + j) + 1) 290 j = S1 290 j from rfl), c16, c36, c56, c81]; done) | exact absurd (c36.symm.trans c56) (by decide)
          refine lm_loses_293 hn6 k (j + 1) _ _ (by omega) ⟨?_, ?_⟩
          · rw [← e, m_l1_ne _ _ _ (by decide)]; exact hQ.1
          · rw [← e]; exact hQ.2
        · refine ax_s (pc' := 60) (st' := [.ref 293]) rfl rfl rfl rfl ?_
          refine ax_s (pc' := 62) (st' := [.int 33, .ref 293]) rfl rfl rfl rfl ?_
          refine ax_s (pc' := 63) (st' := [.int (nI j), .int 33, .ref 293]) rfl rfl rfl rfl ?_
          refine ax_s (pc' := 64) (st' := [.int (33 + (nI j)), .ref 293]) rfl rfl rfl rfl ?_
          refine ax_ald (j := (33 + j)) (v := ((am_u S1 293 (33 + j) ((S1 293 (33 + j)) + 1)) 293 (33 + j))) rfl (hh_293 _ _ _) rfl (am_na (x := 33) (y := j) rfl rfl) (by omega) (by decide) rfl ?_
          refine ax_s (pc' := 66) (st' := [.int 2, .int ((am_u S1 293 (33 + j) ((S1 293 (33 + j)) + 1)) 293 (33 + j))]) rfl rfl rfl rfl ?_
          refine ax_cmp_lt rfl (fun c66 => ?_) (fun c66 => ?_)
          · refine ax_s (pc' := 74) (st' := [.int 0]) rfl rfl rfl rfl ?_
            refine ax_s (pc' := 75) (ls' := [some (.ref 285), some (.ref 293), some (.int (nI j)), some (.int 0)]) (st' := []) rfl rfl rfl rfl ?_
            refine ax_s (pc' := 76) (st' := [.ref 293]) rfl rfl rfl rfl ?_
            refine ax_s (pc' := 78) (st' := [.int 15, .ref 293]) rfl rfl rfl rfl ?_
            refine ax_s (pc' := 79) (st' := [.int (nI j), .int 15, .ref 293]) rfl rfl rfl rfl ?_
            refine ax_s (pc' := 80) (st' := [.int (15 + (nI j)), .ref 293]) rfl rfl rfl rfl ?_
            refine ax_s (pc' := 81) (st' := [.int 0, .int (15 + (nI j)), .ref 293]) rfl rfl rfl rfl ?_
            refine ax_if_eq rfl (fun c81 => ?_) (fun c81 => False.elim (by revert c81; decide))
            refine ax_s (pc' := 89) (st' := [.int 0, .int (15 + (nI j)), .ref 293]) rfl rfl rfl rfl ?_
            refine ax_ast (j := (15 + j)) rfl (hh_293 _ _ _) rfl (am_na (x := 15) (y := j) rfl rfl) (by omega) (by decide) (am_hh_set _ _ _ 293 (15 + j) _ rfl) ?_
            refine ax_s (pc' := 93) (ls' := [some (.ref 285), some (.ref 293), some (.int ((nI j) + 1)), some (.int 0)]) (st' := []) rfl rfl rfl rfl ?_
            rw [nI_1]
            refine ax_s (pc' := 2) (st' := []) rfl rfl rfl rfl ?_
            have e : m_l1 S1 293 j = (am_u (am_u S1 293 (33 + j) ((S1 293 (33 + j)) + 1)) 293 (15 + j) 0) := by first | (simp [m_l1, m_gs, (show am_u S1 293 (33 + j) (S1 293 (33 + j) + 1) 290 j = S1 290 j from rfl), c16, c36, c56, c66, c81]; done) | exact absurd (c36.symm.trans c56) (by decide)
            refine lm_loses_293 hn6 k (j + 1) _ _ (by omega) ⟨?_, ?_⟩
            · rw [← e, m_l1_ne _ _ _ (by decide)]; exact hQ.1
            · rw [← e]; exact hQ.2
          · refine ax_s (pc' := 70) (st' := [.int 1]) rfl rfl rfl rfl ?_
            refine ax_s (pc' := 74) (st' := [.int 1]) rfl rfl rfl rfl ?_
            refine ax_s (pc' := 75) (ls' := [some (.ref 285), some (.ref 293), some (.int (nI j)), some (.int 1)]) (st' := []) rfl rfl rfl rfl ?_
            refine ax_s (pc' := 76) (st' := [.ref 293]) rfl rfl rfl rfl ?_
            refine ax_s (pc' := 78) (st' := [.int 15, .ref 293]) rfl rfl rfl rfl ?_
            refine ax_s (pc' := 79) (st' := [.int (nI j), .int 15, .ref 293]) rfl rfl rfl rfl ?_
            refine ax_s (pc' := 80) (st' := [.int (15 + (nI j)), .ref 293]) rfl rfl rfl rfl ?_
            refine ax_s (pc' := 81) (st' := [.int 1, .int (15 + (nI j)), .ref 293]) rfl rfl rfl rfl ?_
            refine ax_if_eq rfl (fun c81 => False.elim (by revert c81; decide)) (fun c81 => ?_)
            refine ax_s (pc' := 85) (st' := [.int 3, .int (15 + (nI j)), .ref 293]) rfl rfl rfl rfl ?_
            refine ax_s (pc' := 89) (st' := [.int 3, .int (15 + (nI j)), .ref 293]) rfl rfl rfl rfl ?_
            refine ax_ast (j := (15 + j)) rfl (hh_293 _ _ _) rfl (am_na (x := 15) (y := j) rfl rfl) (by omega) (by decide) (am_hh_set _ _ _ 293 (15 + j) _ rfl) ?_
            refine ax_s (pc' := 93) (ls' := [some (.ref 285), some (.ref 293), some (.int ((nI j) + 1)), some (.int 1)]) (st' := []) rfl rfl rfl rfl ?_
            rw [nI_1]
            refine ax_s (pc' := 2) (st' := []) rfl rfl rfl rfl ?_
            have e : m_l1 S1 293 j = (am_u (am_u S1 293 (33 + j) ((S1 293 (33 + j)) + 1)) 293 (15 + j) 3) := by first | (simp [m_l1, m_gs, (show am_u S1 293 (33 + j) (S1 293 (33 + j) + 1) 290 j = S1 290 j from rfl), c16, c36, c56, c66, c81]; done) | exact absurd (c36.symm.trans c56) (by decide)
            refine lm_loses_293 hn6 k (j + 1) _ _ (by omega) ⟨?_, ?_⟩
            · rw [← e, m_l1_ne _ _ _ (by decide)]; exact hQ.1
            · rw [← e]; exact hQ.2
      · refine ax_s (pc' := 40) (st' := [.ref 293]) rfl rfl rfl rfl ?_
        refine ax_s (pc' := 42) (st' := [.int 33, .ref 293]) rfl rfl rfl rfl ?_
        refine ax_s (pc' := 43) (st' := [.int (nI j), .int 33, .ref 293]) rfl rfl rfl rfl ?_
        refine ax_s (pc' := 44) (st' := [.int (33 + (nI j)), .ref 293]) rfl rfl rfl rfl ?_
        refine ax_ald (j := (33 + j)) (v := ((am_u S1 293 (33 + j) ((S1 293 (33 + j)) + 1)) 293 (33 + j))) rfl (hh_293 _ _ _) rfl (am_na (x := 33) (y := j) rfl rfl) (by omega) (by decide) rfl ?_
        refine ax_s (pc' := 46) (st' := [.int 5, .int ((am_u S1 293 (33 + j) ((S1 293 (33 + j)) + 1)) 293 (33 + j))]) rfl rfl rfl rfl ?_
        refine ax_cmp_ge rfl (fun c46 => ?_) (fun c46 => ?_)
        · refine ax_s (pc' := 70) (st' := [.int 1]) rfl rfl rfl rfl ?_
          refine ax_s (pc' := 74) (st' := [.int 1]) rfl rfl rfl rfl ?_
          refine ax_s (pc' := 75) (ls' := [some (.ref 285), some (.ref 293), some (.int (nI j)), some (.int 1)]) (st' := []) rfl rfl rfl rfl ?_
          refine ax_s (pc' := 76) (st' := [.ref 293]) rfl rfl rfl rfl ?_
          refine ax_s (pc' := 78) (st' := [.int 15, .ref 293]) rfl rfl rfl rfl ?_
          refine ax_s (pc' := 79) (st' := [.int (nI j), .int 15, .ref 293]) rfl rfl rfl rfl ?_
          refine ax_s (pc' := 80) (st' := [.int (15 + (nI j)), .ref 293]) rfl rfl rfl rfl ?_
          refine ax_s (pc' := 81) (st' := [.int 1, .int (15 + (nI j)), .ref 293]) rfl rfl rfl rfl ?_
          refine ax_if_eq rfl (fun c81 => False.elim (by revert c81; decide)) (fun c81 => ?_)
          refine ax_s (pc' := 85) (st' := [.int 3, .int (15 + (nI j)), .ref 293]) rfl rfl rfl rfl ?_
          refine ax_s (pc' := 89) (st' := [.int 3, .int (15 + (nI j)), .ref 293]) rfl rfl rfl rfl ?_
          refine ax_ast (j := (15 + j)) rfl (hh_293 _ _ _) rfl (am_na (x := 15) (y := j) rfl rfl) (by omega) (by decide) (am_hh_set _ _ _ 293 (15 + j) _ rfl) ?_
          refine ax_s (pc' := 93) (ls' := [some (.ref 285), some (.ref 293), some (.int ((nI j) + 1)), some (.int 1)]) (st' := []) rfl rfl rfl rfl ?_
          rw [nI_1]
          refine ax_s (pc' := 2) (st' := []) rfl rfl rfl rfl ?_
          have e : m_l1 S1 293 j = (am_u (am_u S1 293 (33 + j) ((S1 293 (33 + j)) + 1)) 293 (15 + j) 3) := by first | (simp [m_l1, m_gs, (show am_u S1 293 (33 + j) (S1 293 (33 + j) + 1) 290 j = S1 290 j from rfl), c16, c36, c46, c81]; done) | exact absurd (c36.symm.trans c56) (by decide)
          refine lm_loses_293 hn6 k (j + 1) _ _ (by omega) ⟨?_, ?_⟩
          · rw [← e, m_l1_ne _ _ _ (by decide)]; exact hQ.1
          · rw [← e]; exact hQ.2
        · refine ax_s (pc' := 50) (st' := [.ref 285]) rfl rfl rfl rfl ?_
          refine ax_get rfl (hh_285 _ _ _) rfl rfl rfl ?_
          show am_ex d 182 53 [some (.ref 285), some (.ref 293), some (.int (nI j)), x3] [.ref 290] (am_hh X (am_u S1 293 (33 + j) ((S1 293 (33 + j)) + 1)) L) _
          refine ax_s (pc' := 54) (st' := [.int (nI j), .ref 290]) rfl rfl rfl rfl ?_
          refine ax_ald (j := j) (v := (S1 290 j)) rfl (hh_290 _ _ _) rfl rfl (by omega) (by decide) rfl ?_
          refine ax_s (pc' := 56) (st' := [.int 5, .int (S1 290 j)]) rfl rfl rfl rfl ?_
          refine ax_cmp_ne rfl (fun c56 => ?_) (fun c56 => ?_)
          · refine ax_s (pc' := 74) (st' := [.int 0]) rfl rfl rfl rfl ?_
            refine ax_s (pc' := 75) (ls' := [some (.ref 285), some (.ref 293), some (.int (nI j)), some (.int 0)]) (st' := []) rfl rfl rfl rfl ?_
            refine ax_s (pc' := 76) (st' := [.ref 293]) rfl rfl rfl rfl ?_
            refine ax_s (pc' := 78) (st' := [.int 15, .ref 293]) rfl rfl rfl rfl ?_
            refine ax_s (pc' := 79) (st' := [.int (nI j), .int 15, .ref 293]) rfl rfl rfl rfl ?_
            refine ax_s (pc' := 80) (st' := [.int (15 + (nI j)), .ref 293]) rfl rfl rfl rfl ?_
            refine ax_s (pc' := 81) (st' := [.int 0, .int (15 + (nI j)), .ref 293]) rfl rfl rfl rfl ?_
            refine ax_if_eq rfl (fun c81 => ?_) (fun c81 => False.elim (by revert c81; decide))
            refine ax_s (pc' := 89) (st' := [.int 0, .int (15 + (nI j)), .ref 293]) rfl rfl rfl rfl ?_
            refine ax_ast (j := (15 + j)) rfl (hh_293 _ _ _) rfl (am_na (x := 15) (y := j) rfl rfl) (by omega) (by decide) (am_hh_set _ _ _ 293 (15 + j) _ rfl) ?_
            refine ax_s (pc' := 93) (ls' := [some (.ref 285), some (.ref 293), some (.int ((nI j) + 1)), some (.int 0)]) (st' := []) rfl rfl rfl rfl ?_
            rw [nI_1]
            refine ax_s (pc' := 2) (st' := []) rfl rfl rfl rfl ?_
            have e : m_l1 S1 293 j = (am_u (am_u S1 293 (33 + j) ((S1 293 (33 + j)) + 1)) 293 (15 + j) 0) := by first | (simp [m_l1, m_gs, (show am_u S1 293 (33 + j) (S1 293 (33 + j) + 1) 290 j = S1 290 j from rfl), c16, c36, c46, c56, c81]; done) | exact absurd (c36.symm.trans c56) (by decide)
            refine lm_loses_293 hn6 k (j + 1) _ _ (by omega) ⟨?_, ?_⟩
            · rw [← e, m_l1_ne _ _ _ (by decide)]; exact hQ.1
            · rw [← e]; exact hQ.2
          · refine ax_s (pc' := 60) (st' := [.ref 293]) rfl rfl rfl rfl ?_
            refine ax_s (pc' := 62) (st' := [.int 33, .ref 293]) rfl rfl rfl rfl ?_
            refine ax_s (pc' := 63) (st' := [.int (nI j), .int 33, .ref 293]) rfl rfl rfl rfl ?_
            refine ax_s (pc' := 64) (st' := [.int (33 + (nI j)), .ref 293]) rfl rfl rfl rfl ?_
            refine ax_ald (j := (33 + j)) (v := ((am_u S1 293 (33 + j) ((S1 293 (33 + j)) + 1)) 293 (33 + j))) rfl (hh_293 _ _ _) rfl (am_na (x := 33) (y := j) rfl rfl) (by omega) (by decide) rfl ?_
            refine ax_s (pc' := 66) (st' := [.int 2, .int ((am_u S1 293 (33 + j) ((S1 293 (33 + j)) + 1)) 293 (33 + j))]) rfl rfl rfl rfl ?_
            refine ax_cmp_lt rfl (fun c66 => ?_) (fun c66 => ?_)
            · refine ax_s (pc' := 74) (st' := [.int 0]) rfl rfl rfl rfl ?_
              refine ax_s (pc' := 75) (ls' := [some (.ref 285), some (.ref 293), some (.int (nI j)), some (.int 0)]) (st' := []) rfl rfl rfl rfl ?_
              refine ax_s (pc' := 76) (st' := [.ref 293]) rfl rfl rfl rfl ?_
              refine ax_s (pc' := 78) (st' := [.int 15, .ref 293]) rfl rfl rfl rfl ?_
              refine ax_s (pc' := 79) (st' := [.int (nI j), .int 15, .ref 293]) rfl rfl rfl rfl ?_
              refine ax_s (pc' := 80) (st' := [.int (15 + (nI j)), .ref 293]) rfl rfl rfl rfl ?_
              refine ax_s (pc' := 81) (st' := [.int 0, .int (15 + (nI j)), .ref 293]) rfl rfl rfl rfl ?_
              refine ax_if_eq rfl (fun c81 => ?_) (fun c81 => False.elim (by revert c81; decide))
              refine ax_s (pc' := 89) (st' := [.int 0, .int (15 + (nI j)), .ref 293]) rfl rfl rfl rfl ?_
              refine ax_ast (j := (15 + j)) rfl (hh_293 _ _ _) rfl (am_na (x := 15) (y := j) rfl rfl) (by omega) (by decide) (am_hh_set _ _ _ 293 (15 + j) _ rfl) ?_
              refine ax_s (pc' := 93) (ls' := [some (.ref 285), some (.ref 293), some (.int ((nI j) + 1)), some (.int 0)]) (st' := []) rfl rfl rfl rfl ?_
              rw [nI_1]
              refine ax_s (pc' := 2) (st' := []) rfl rfl rfl rfl ?_
              have e : m_l1 S1 293 j = (am_u (am_u S1 293 (33 + j) ((S1 293 (33 + j)) + 1)) 293 (15 + j) 0) := by first | (simp [m_l1, m_gs, (show am_u S1 293 (33 + j) (S1 293 (33 + j) + 1) 290 j = S1 290 j from rfl), c16, c36, c46, c56, c66, c81]; done) | exact absurd (c36.symm.trans c56) (by decide)
              refine lm_loses_293 hn6 k (j + 1) _ _ (by omega) ⟨?_, ?_⟩
              · rw [← e, m_l1_ne _ _ _ (by decide)]; exact hQ.1
              · rw [← e]; exact hQ.2
            · refine ax_s (pc' := 70) (st' := [.int 1]) rfl rfl rfl rfl ?_
              refine ax_s (pc' := 74) (st' := [.int 1]) rfl rfl rfl rfl ?_
              refine ax_s (pc' := 75) (ls' := [some (.ref 285), some (.ref 293), some (.int (nI j)), some (.int 1)]) (st' := []) rfl rfl rfl rfl ?_
              refine ax_s (pc' := 76) (st' := [.ref 293]) rfl rfl rfl rfl ?_
              refine ax_s (pc' := 78) (st' := [.int 15, .ref 293]) rfl rfl rfl rfl ?_
              refine ax_s (pc' := 79) (st' := [.int (nI j), .int 15, .ref 293]) rfl rfl rfl rfl ?_
              refine ax_s (pc' := 80) (st' := [.int (15 + (nI j)), .ref 293]) rfl rfl rfl rfl ?_
              refine ax_s (pc' := 81) (st' := [.int 1, .int (15 + (nI j)), .ref 293]) rfl rfl rfl rfl ?_
              refine ax_if_eq rfl (fun c81 => False.elim (by revert c81; decide)) (fun c81 => ?_)
              refine ax_s (pc' := 85) (st' := [.int 3, .int (15 + (nI j)), .ref 293]) rfl rfl rfl rfl ?_
              refine ax_s (pc' := 89) (st' := [.int 3, .int (15 + (nI j)), .ref 293]) rfl rfl rfl rfl ?_
              refine ax_ast (j := (15 + j)) rfl (hh_293 _ _ _) rfl (am_na (x := 15) (y := j) rfl rfl) (by omega) (by decide) (am_hh_set _ _ _ 293 (15 + j) _ rfl) ?_
              refine ax_s (pc' := 93) (ls' := [some (.ref 285), some (.ref 293), some (.int ((nI j) + 1)), some (.int 1)]) (st' := []) rfl rfl rfl rfl ?_
              rw [nI_1]
              refine ax_s (pc' := 2) (st' := []) rfl rfl rfl rfl ?_
              have e : m_l1 S1 293 j = (am_u (am_u S1 293 (33 + j) ((S1 293 (33 + j)) + 1)) 293 (15 + j) 3) := by first | (simp [m_l1, m_gs, (show am_u S1 293 (33 + j) (S1 293 (33 + j) + 1) 290 j = S1 290 j from rfl), c16, c36, c46, c56, c66, c81]; done) | exact absurd (c36.symm.trans c56) (by decide)
              refine lm_loses_293 hn6 k (j + 1) _ _ (by omega) ⟨?_, ?_⟩
              · rw [← e, m_l1_ne _ _ _ (by decide)]; exact hQ.1
              · rw [← e]; exact hQ.2
theorem mt_loses_293 {d : Nat} {X : Nat × (Nat → Int32)} {S : Nat → Nat → Int32} {L : Nat → Int64} {n : Nat} {Q : Option Value → am_H → Prop} (hn : S 285 7 = nI n) (hn6 : n ≤ 6)  (hQ : Q none (am_hh X (m_ls 293 n 0 S) L)) : am_mt d 182 [.ref 285, .ref 293] (am_hh X S L) Q := by
  refine ax_in (ls := [some (.ref 285), some (.ref 293), none, none]) rfl ?_
  refine ax_s (pc' := 1) (st' := [.int 0]) rfl rfl rfl rfl ?_
  refine ax_s (pc' := 2) (ls' := [some (.ref 285), some (.ref 293), some (.int 0), none]) (st' := []) rfl rfl rfl rfl ?_
  exact lm_loses_293 hn6 n 0 _ S (by omega) ⟨hn, hQ⟩
theorem sg_step3_293 {d : Nat} {X : Nat × (Nat → Int32)} {S : Nat → Nat → Int32} {L : Nat → Int64} {n : Nat} {g : Nat} {one nx : Int32} {Q : Option Value → am_H → Prop} (hn : S 285 7 = nI n) (hn6 : n ≤ 6) (hg : S 285 8 = nI g) (hg4 : 4 ≤ g) (hg12 : g ≤ 12)  (hQ : (m_bal (am_u (m_ls 293 n 0 S) 293 0 (m_ls 293 n 0 S 293 0 + 1)) 293 (m_lean (am_u (m_ls 293 n 0 S) 293 0 (m_ls 293 n 0 S 293 0 + 1)) 293 g n (m_to (am_u (m_ls 293 n 0 S) 293 0 (m_ls 293 n 0 S 293 0 + 1)) 293)) = true → Q (some (.int 0)) (am_hh X (m_s4 (am_u (am_u (m_ls 293 n 0 S) 293 0 (m_ls 293 n 0 S 293 0 + 1)) 293 1 (m_to (am_u (m_ls 293 n 0 S) 293 0 (m_ls 293 n 0 S 293 0 + 1)) 293)) 293 n) L)) ∧ (m_bal (am_u (m_ls 293 n 0 S) 293 0 (m_ls 293 n 0 S 293 0 + 1)) 293 (m_lean (am_u (m_ls 293 n 0 S) 293 0 (m_ls 293 n 0 S 293 0 + 1)) 293 g n (m_to (am_u (m_ls 293 n 0 S) 293 0 (m_ls 293 n 0 S 293 0 + 1)) 293)) = false → Q (some (.int 1)) (am_hh X (am_u (m_ls 293 n 0 S) 293 0 (m_ls 293 n 0 S 293 0 + 1)) L))) : am_ex (d + 3) 173 76 [some (.ref 285), some (.ref 293), some (.int one), some (.int nx), none, none] [] (am_hh X S L) Q := by
  refine ax_s (pc' := 77) (st' := [.ref 285]) rfl rfl rfl rfl ?_
  refine ax_s (pc' := 78) (st' := [.ref 293, .ref 285]) rfl rfl rfl rfl ?_
  refine ax_call (vs := [.ref 285, .ref 293]) (rr := []) rfl rfl rfl ?_
  refine mt_loses_293 hn hn6 ?_
  show am_ex (d + 3) 173 81 [some (.ref 285), some (.ref 293), some (.int one), some (.int nx), none, none] [] (am_hh X (m_ls 293 n 0 S) L) _
  refine ax_s (pc' := 82) (st' := [.ref 293]) rfl rfl rfl rfl ?_
  refine ax_s (pc' := 83) (st' := [.int 0, .ref 293]) rfl rfl rfl rfl ?_
  refine ax_s (pc' := 84) (st' := [.int 0, .ref 293, .int 0, .ref 293]) rfl rfl rfl rfl ?_
  refine ax_ald (j := 0) (v := ((m_ls 293 n 0 S) 293 0)) rfl (hh_293 _ _ _) rfl rfl (by omega) (by decide) rfl ?_
  refine ax_s (pc' := 86) (st' := [.int 1, .int ((m_ls 293 n 0 S) 293 0), .int 0, .ref 293]) rfl rfl rfl rfl ?_
  refine ax_s (pc' := 87) (st' := [.int (((m_ls 293 n 0 S) 293 0) + 1), .int 0, .ref 293]) rfl rfl rfl rfl ?_
  refine ax_ast (j := 0) rfl (hh_293 _ _ _) rfl rfl (by omega) (by decide) (am_hh_set _ _ _ 293 0 _ rfl) ?_
  refine ax_s (pc' := 89) (st' := [.ref 293]) rfl rfl rfl rfl ?_
  refine ax_s (pc' := 90) (st' := [.int 1, .ref 293]) rfl rfl rfl rfl ?_
  refine ax_ald (j := 1) (v := ((m_ls 293 n 0 S) 293 1)) rfl (hh_293 _ _ _) rfl rfl (by omega) (by decide) rfl ?_
  refine ax_s (pc' := 92) (st' := [.int 1, .int ((m_ls 293 n 0 S) 293 1)]) rfl rfl rfl rfl ?_
  refine ax_s (pc' := 93) (st' := [.int (((m_ls 293 n 0 S) 293 1) + 1)]) rfl rfl rfl rfl ?_
  refine ax_s (pc' := 94) (st' := [.ref 285, .int (((m_ls 293 n 0 S) 293 1) + 1)]) rfl rfl rfl rfl ?_
  refine ax_get rfl (hh_285 _ _ _) rfl rfl rfl ?_
  show am_ex (d + 3) 173 97 [some (.ref 285), some (.ref 293), some (.int one), some (.int nx), none, none] [.int ((m_ls 293 n 0 S) 285 8), .int (((m_ls 293 n 0 S) 293 1) + 1)] (am_hh X (am_u (m_ls 293 n 0 S) 293 0 (((m_ls 293 n 0 S) 293 0) + 1)) L) _
  refine ax_irem rfl (show ¬ (m_ls 293 n 0 S) 285 8 = 0 by rw [m_ls_ne _ (by decide), hg]; exact nI_ne0 (by omega) (by omega)) ?_
  refine ax_s (pc' := 100) (ls' := [some (.ref 285), some (.ref 293), some (.int one), some (.int nx), some (.int ((((m_ls 293 n 0 S) 293 1) + 1) - (((m_ls 293 n 0 S) 293 1) + 1) / ((m_ls 293 n 0 S) 285 8) * ((m_ls 293 n 0 S) 285 8))), none]) (st' := []) rfl rfl rfl rfl ?_
  refine ax_s (pc' := 101) (st' := [.ref 285]) rfl rfl rfl rfl ?_
  refine ax_s (pc' := 102) (st' := [.ref 293, .ref 285]) rfl rfl rfl rfl ?_
  refine ax_s (pc' := 103) (st' := [.ref 285, .ref 293, .ref 285]) rfl rfl rfl rfl ?_
  refine ax_s (pc' := 104) (st' := [.ref 293, .ref 285, .ref 293, .ref 285]) rfl rfl rfl rfl ?_
  refine ax_s (pc' := 106) (st' := [.int ((((m_ls 293 n 0 S) 293 1) + 1) - (((m_ls 293 n 0 S) 293 1) + 1) / ((m_ls 293 n 0 S) 285 8) * ((m_ls 293 n 0 S) 285 8)), .ref 293, .ref 285, .ref 293, .ref 285]) rfl rfl rfl rfl ?_
  refine ax_call (vs := [.ref 285, .ref 293, .int ((((m_ls 293 n 0 S) 293 1) + 1) - (((m_ls 293 n 0 S) 293 1) + 1) / ((m_ls 293 n 0 S) 285 8) * ((m_ls 293 n 0 S) 285 8))]) (rr := [.ref 293, .ref 285]) rfl rfl rfl ?_
  refine mt_leanBy (show (m_ls 293 n 0 S) 285 7 = nI n by rw [m_ls_ne _ (by decide)]; exact hn) hn6 (show (m_ls 293 n 0 S) 285 8 = nI g by rw [m_ls_ne _ (by decide)]; exact hg) hg4 hg12 (Or.inl rfl) ?_
  show am_ex (d + 3) 173 109 [some (.ref 285), some (.ref 293), some (.int one), some (.int nx), some (.int ((((m_ls 293 n 0 S) 293 1) + 1) - (((m_ls 293 n 0 S) 293 1) + 1) / ((m_ls 293 n 0 S) 285 8) * ((m_ls 293 n 0 S) 285 8))), none] [.int (m_lean (am_u (m_ls 293 n 0 S) 293 0 (((m_ls 293 n 0 S) 293 0) + 1)) 293 g n ((((m_ls 293 n 0 S) 293 1) + 1) - (((m_ls 293 n 0 S) 293 1) + 1) / ((m_ls 293 n 0 S) 285 8) * ((m_ls 293 n 0 S) 285 8))), .ref 293, .ref 285] (am_hh X (am_u (m_ls 293 n 0 S) 293 0 (((m_ls 293 n 0 S) 293 0) + 1)) L) _
  refine ax_call (vs := [.ref 285, .ref 293, .int (m_lean (am_u (m_ls 293 n 0 S) 293 0 (((m_ls 293 n 0 S) 293 0) + 1)) 293 g n ((((m_ls 293 n 0 S) 293 1) + 1) - (((m_ls 293 n 0 S) 293 1) + 1) / ((m_ls 293 n 0 S) 285 8) * ((m_ls 293 n 0 S) 285 8)))]) (rr := []) rfl rfl rfl ?_
  refine mt_isBalance (Or.inl rfl) ?_
  show am_ex (d + 3) 173 112 [some (.ref 285), some (.ref 293), some (.int one), some (.int nx), some (.int ((((m_ls 293 n 0 S) 293 1) + 1) - (((m_ls 293 n 0 S) 293 1) + 1) / ((m_ls 293 n 0 S) 285 8) * ((m_ls 293 n 0 S) 285 8))), none] [.int (bI (m_bal (am_u (m_ls 293 n 0 S) 293 0 (((m_ls 293 n 0 S) 293 0) + 1)) 293 (m_lean (am_u (m_ls 293 n 0 S) 293 0 (((m_ls 293 n 0 S) 293 0) + 1)) 293 g n ((((m_ls 293 n 0 S) 293 1) + 1) - (((m_ls 293 n 0 S) 293 1) + 1) / ((m_ls 293 n 0 S) 285 8) * ((m_ls 293 n 0 S) 285 8)))))] (am_hh X (am_u (m_ls 293 n 0 S) 293 0 (((m_ls 293 n 0 S) 293 0) + 1)) L) _
  refine ax_bT rfl (fun c112 => ?_) (fun c112 => ?_)
  · refine ax_s (pc' := 118) (st' := [.ref 293]) rfl rfl rfl rfl ?_
    refine ax_s (pc' := 119) (st' := [.int 1, .ref 293]) rfl rfl rfl rfl ?_
    refine ax_s (pc' := 121) (st' := [.int ((((m_ls 293 n 0 S) 293 1) + 1) - (((m_ls 293 n 0 S) 293 1) + 1) / ((m_ls 293 n 0 S) 285 8) * ((m_ls 293 n 0 S) 285 8)), .int 1, .ref 293]) rfl rfl rfl rfl ?_
    refine ax_ast (j := 1) rfl (hh_293 _ _ _) rfl rfl (by omega) (by decide) (am_hh_set _ _ _ 293 1 _ rfl) ?_
    refine ax_s (pc' := 123) (st' := [.ref 285]) rfl rfl rfl rfl ?_
    refine ax_s (pc' := 124) (st' := [.ref 293, .ref 285]) rfl rfl rfl rfl ?_
    refine ax_s (pc' := 126) (st' := [.int ((((m_ls 293 n 0 S) 293 1) + 1) - (((m_ls 293 n 0 S) 293 1) + 1) / ((m_ls 293 n 0 S) 285 8) * ((m_ls 293 n 0 S) 285 8)), .ref 293, .ref 285]) rfl rfl rfl rfl ?_
    refine ax_call (vs := [.ref 285, .ref 293, .int ((((m_ls 293 n 0 S) 293 1) + 1) - (((m_ls 293 n 0 S) 293 1) + 1) / ((m_ls 293 n 0 S) 285 8) * ((m_ls 293 n 0 S) 285 8))]) (rr := []) rfl rfl rfl ?_
    refine mt_partyIn (show (m_ls 293 n 0 S) 285 7 = nI n by rw [m_ls_ne _ (by decide)]; exact hn) hn6 (Or.inl rfl) ?_
    show am_ex (d + 3) 173 129 [some (.ref 285), some (.ref 293), some (.int one), some (.int nx), some (.int ((((m_ls 293 n 0 S) 293 1) + 1) - (((m_ls 293 n 0 S) 293 1) + 1) / ((m_ls 293 n 0 S) 285 8) * ((m_ls 293 n 0 S) 285 8))), none] [.int (m_pin (am_u (am_u (m_ls 293 n 0 S) 293 0 (((m_ls 293 n 0 S) 293 0) + 1)) 293 1 ((((m_ls 293 n 0 S) 293 1) + 1) - (((m_ls 293 n 0 S) 293 1) + 1) / ((m_ls 293 n 0 S) 285 8) * ((m_ls 293 n 0 S) 285 8))) 293 ((((m_ls 293 n 0 S) 293 1) + 1) - (((m_ls 293 n 0 S) 293 1) + 1) / ((m_ls 293 n 0 S) 285 8) * ((m_ls 293 n 0 S) 285 8)) n 0 (-1))] (am_hh X (am_u (am_u (m_ls 293 n 0 S) 293 0 (((m_ls 293 n 0 S) 293 0) + 1)) 293 1 ((((m_ls 293 n 0 S) 293 1) + 1) - (((m_ls 293 n 0 S) 293 1) + 1) / ((m_ls 293 n 0 S) 285 8) * ((m_ls 293 n 0 S) 285 8))) L) _
    refine ax_s (pc' := 131) (ls' := [some (.ref 285), some (.ref 293), some (.int one), some (.int nx), some (.int ((((m_ls 293 n 0 S) 293 1) + 1) - (((m_ls 293 n 0 S) 293 1) + 1) / ((m_ls 293 n 0 S) 285 8) * ((m_ls 293 n 0 S) 285 8))), some (.int (m_pin (am_u (am_u (m_ls 293 n 0 S) 293 0 (((m_ls 293 n 0 S) 293 0) + 1)) 293 1 ((((m_ls 293 n 0 S) 293 1) + 1) - (((m_ls 293 n 0 S) 293 1) + 1) / ((m_ls 293 n 0 S) 285 8) * ((m_ls 293 n 0 S) 285 8))) 293 ((((m_ls 293 n 0 S) 293 1) + 1) - (((m_ls 293 n 0 S) 293 1) + 1) / ((m_ls 293 n 0 S) 285 8) * ((m_ls 293 n 0 S) 285 8)) n 0 (-1)))]) (st' := []) rfl rfl rfl rfl ?_
    refine ax_s (pc' := 133) (st' := [.int (m_pin (am_u (am_u (m_ls 293 n 0 S) 293 0 (((m_ls 293 n 0 S) 293 0) + 1)) 293 1 ((((m_ls 293 n 0 S) 293 1) + 1) - (((m_ls 293 n 0 S) 293 1) + 1) / ((m_ls 293 n 0 S) 285 8) * ((m_ls 293 n 0 S) 285 8))) 293 ((((m_ls 293 n 0 S) 293 1) + 1) - (((m_ls 293 n 0 S) 293 1) + 1) / ((m_ls 293 n 0 S) 285 8) * ((m_ls 293 n 0 S) 285 8)) n 0 (-1))]) rfl rfl rfl rfl ?_
    refine ax_if_lt rfl (fun c133 => ?_) (fun c133 => ?_)
    · refine ax_s (pc' := 160) (st' := [.int 0]) rfl rfl rfl rfl ?_
      refine ax_r rfl rfl rfl ?_
      have e := c112
      have hq := hQ.1 e
      unfold m_s4 at hq
      rw [if_pos (show m_pin (am_u (am_u (m_ls 293 n 0 S) 293 0 (m_ls 293 n 0 S 293 0 + 1)) 293 1 (m_to (am_u (m_ls 293 n 0 S) 293 0 (m_ls 293 n 0 S 293 0 + 1)) 293)) 293 ((am_u (am_u (m_ls 293 n 0 S) 293 0 (m_ls 293 n 0 S 293 0 + 1)) 293 1 (m_to (am_u (m_ls 293 n 0 S) 293 0 (m_ls 293 n 0 S 293 0 + 1)) 293)) 293 1) n 0 (-1) < 0 from c133)] at hq
      exact hq
    · obtain ⟨i, hi, ei⟩ := m_pin_ge c133
      refine ax_s (pc' := 137) (st' := [.ref 293]) rfl rfl rfl rfl ?_
      refine ax_s (pc' := 139) (st' := [.int 27, .ref 293]) rfl rfl rfl rfl ?_
      refine ax_s (pc' := 141) (st' := [.int (m_pin (am_u (am_u (m_ls 293 n 0 S) 293 0 (((m_ls 293 n 0 S) 293 0) + 1)) 293 1 ((((m_ls 293 n 0 S) 293 1) + 1) - (((m_ls 293 n 0 S) 293 1) + 1) / ((m_ls 293 n 0 S) 285 8) * ((m_ls 293 n 0 S) 285 8))) 293 ((((m_ls 293 n 0 S) 293 1) + 1) - (((m_ls 293 n 0 S) 293 1) + 1) / ((m_ls 293 n 0 S) 285 8) * ((m_ls 293 n 0 S) 285 8)) n 0 (-1)), .int 27, .ref 293]) rfl rfl rfl rfl ?_
      refine ax_s (pc' := 142) (st' := [.int (27 + (m_pin (am_u (am_u (m_ls 293 n 0 S) 293 0 (((m_ls 293 n 0 S) 293 0) + 1)) 293 1 ((((m_ls 293 n 0 S) 293 1) + 1) - (((m_ls 293 n 0 S) 293 1) + 1) / ((m_ls 293 n 0 S) 285 8) * ((m_ls 293 n 0 S) 285 8))) 293 ((((m_ls 293 n 0 S) 293 1) + 1) - (((m_ls 293 n 0 S) 293 1) + 1) / ((m_ls 293 n 0 S) 285 8) * ((m_ls 293 n 0 S) 285 8)) n 0 (-1))), .ref 293]) rfl rfl rfl rfl ?_
      refine ax_ald (j := (27 + i)) (v := ((am_u (am_u (m_ls 293 n 0 S) 293 0 (((m_ls 293 n 0 S) 293 0) + 1)) 293 1 ((((m_ls 293 n 0 S) 293 1) + 1) - (((m_ls 293 n 0 S) 293 1) + 1) / ((m_ls 293 n 0 S) 285 8) * ((m_ls 293 n 0 S) 285 8))) 293 (27 + i))) rfl (hh_293 _ _ _) rfl (am_na (x := 27) (y := i) rfl ei) (by omega) (by decide) rfl ?_
      refine ax_s (pc' := 145) (st' := [.int 99, .int ((am_u (am_u (m_ls 293 n 0 S) 293 0 (((m_ls 293 n 0 S) 293 0) + 1)) 293 1 ((((m_ls 293 n 0 S) 293 1) + 1) - (((m_ls 293 n 0 S) 293 1) + 1) / ((m_ls 293 n 0 S) 285 8) * ((m_ls 293 n 0 S) 285 8))) 293 (27 + i))]) rfl rfl rfl rfl ?_
      refine ax_cmp_ge rfl (fun c145 => ?_) (fun c145 => ?_)
      · refine ax_s (pc' := 160) (st' := [.int 0]) rfl rfl rfl rfl ?_
        refine ax_r rfl rfl rfl ?_
        have e := c112
        have hq := hQ.1 e
        unfold m_s4 at hq
        rw [if_neg (show ¬ m_pin (am_u (am_u (m_ls 293 n 0 S) 293 0 (m_ls 293 n 0 S 293 0 + 1)) 293 1 (m_to (am_u (m_ls 293 n 0 S) 293 0 (m_ls 293 n 0 S 293 0 + 1)) 293)) 293 ((am_u (am_u (m_ls 293 n 0 S) 293 0 (m_ls 293 n 0 S 293 0 + 1)) 293 1 (m_to (am_u (m_ls 293 n 0 S) 293 0 (m_ls 293 n 0 S 293 0 + 1)) 293)) 293 1) n 0 (-1) < 0 from c133)] at hq
        have ec : (m_pin (am_u (am_u (m_ls 293 n 0 S) 293 0 (m_ls 293 n 0 S 293 0 + 1)) 293 1 (m_to (am_u (m_ls 293 n 0 S) 293 0 (m_ls 293 n 0 S 293 0 + 1)) 293)) 293 ((am_u (am_u (m_ls 293 n 0 S) 293 0 (m_ls 293 n 0 S 293 0 + 1)) 293 1 (m_to (am_u (m_ls 293 n 0 S) 293 0 (m_ls 293 n 0 S 293 0 + 1)) 293)) 293 1) n 0 (-1)).toNatClampNeg = i := by
          rw [show m_pin (am_u (am_u (m_ls 293 n 0 S) 293 0 (m_ls 293 n 0 S 293 0 + 1)) 293 1 (m_to (am_u (m_ls 293 n 0 S) 293 0 (m_ls 293 n 0 S 293 0 + 1)) 293)) 293 ((am_u (am_u (m_ls 293 n 0 S) 293 0 (m_ls 293 n 0 S 293 0 + 1)) 293 1 (m_to (am_u (m_ls 293 n 0 S) 293 0 (m_ls 293 n 0 S 293 0 + 1)) 293)) 293 1) n 0 (-1) = nI i from ei]
          exact nI_clamp (by omega)
        rw [ec, if_pos (show 99 ≤ (am_u (am_u (m_ls 293 n 0 S) 293 0 (m_ls 293 n 0 S 293 0 + 1)) 293 1 (m_to (am_u (m_ls 293 n 0 S) 293 0 (m_ls 293 n 0 S 293 0 + 1)) 293)) 293 (27 + i) from c145)] at hq
        exact hq
      · refine ax_s (pc' := 149) (st' := [.ref 293]) rfl rfl rfl rfl ?_
        refine ax_s (pc' := 151) (st' := [.int 27, .ref 293]) rfl rfl rfl rfl ?_
        refine ax_s (pc' := 153) (st' := [.int (m_pin (am_u (am_u (m_ls 293 n 0 S) 293 0 (((m_ls 293 n 0 S) 293 0) + 1)) 293 1 ((((m_ls 293 n 0 S) 293 1) + 1) - (((m_ls 293 n 0 S) 293 1) + 1) / ((m_ls 293 n 0 S) 285 8) * ((m_ls 293 n 0 S) 285 8))) 293 ((((m_ls 293 n 0 S) 293 1) + 1) - (((m_ls 293 n 0 S) 293 1) + 1) / ((m_ls 293 n 0 S) 285 8) * ((m_ls 293 n 0 S) 285 8)) n 0 (-1)), .int 27, .ref 293]) rfl rfl rfl rfl ?_
        refine ax_s (pc' := 154) (st' := [.int (27 + (m_pin (am_u (am_u (m_ls 293 n 0 S) 293 0 (((m_ls 293 n 0 S) 293 0) + 1)) 293 1 ((((m_ls 293 n 0 S) 293 1) + 1) - (((m_ls 293 n 0 S) 293 1) + 1) / ((m_ls 293 n 0 S) 285 8) * ((m_ls 293 n 0 S) 285 8))) 293 ((((m_ls 293 n 0 S) 293 1) + 1) - (((m_ls 293 n 0 S) 293 1) + 1) / ((m_ls 293 n 0 S) 285 8) * ((m_ls 293 n 0 S) 285 8)) n 0 (-1))), .ref 293]) rfl rfl rfl rfl ?_
        refine ax_s (pc' := 155) (st' := [.int (27 + (m_pin (am_u (am_u (m_ls 293 n 0 S) 293 0 (((m_ls 293 n 0 S) 293 0) + 1)) 293 1 ((((m_ls 293 n 0 S) 293 1) + 1) - (((m_ls 293 n 0 S) 293 1) + 1) / ((m_ls 293 n 0 S) 285 8) * ((m_ls 293 n 0 S) 285 8))) 293 ((((m_ls 293 n 0 S) 293 1) + 1) - (((m_ls 293 n 0 S) 293 1) + 1) / ((m_ls 293 n 0 S) 285 8) * ((m_ls 293 n 0 S) 285 8)) n 0 (-1))), .ref 293, .int (27 + (m_pin (am_u (am_u (m_ls 293 n 0 S) 293 0 (((m_ls 293 n 0 S) 293 0) + 1)) 293 1 ((((m_ls 293 n 0 S) 293 1) + 1) - (((m_ls 293 n 0 S) 293 1) + 1) / ((m_ls 293 n 0 S) 285 8) * ((m_ls 293 n 0 S) 285 8))) 293 ((((m_ls 293 n 0 S) 293 1) + 1) - (((m_ls 293 n 0 S) 293 1) + 1) / ((m_ls 293 n 0 S) 285 8) * ((m_ls 293 n 0 S) 285 8)) n 0 (-1))), .ref 293]) rfl rfl rfl rfl ?_
        refine ax_ald (j := (27 + i)) (v := ((am_u (am_u (m_ls 293 n 0 S) 293 0 (((m_ls 293 n 0 S) 293 0) + 1)) 293 1 ((((m_ls 293 n 0 S) 293 1) + 1) - (((m_ls 293 n 0 S) 293 1) + 1) / ((m_ls 293 n 0 S) 285 8) * ((m_ls 293 n 0 S) 285 8))) 293 (27 + i))) rfl (hh_293 _ _ _) rfl (am_na (x := 27) (y := i) rfl ei) (by omega) (by decide) rfl ?_
        refine ax_s (pc' := 157) (st' := [.int 1, .int ((am_u (am_u (m_ls 293 n 0 S) 293 0 (((m_ls 293 n 0 S) 293 0) + 1)) 293 1 ((((m_ls 293 n 0 S) 293 1) + 1) - (((m_ls 293 n 0 S) 293 1) + 1) / ((m_ls 293 n 0 S) 285 8) * ((m_ls 293 n 0 S) 285 8))) 293 (27 + i)), .int (27 + (m_pin (am_u (am_u (m_ls 293 n 0 S) 293 0 (((m_ls 293 n 0 S) 293 0) + 1)) 293 1 ((((m_ls 293 n 0 S) 293 1) + 1) - (((m_ls 293 n 0 S) 293 1) + 1) / ((m_ls 293 n 0 S) 285 8) * ((m_ls 293 n 0 S) 285 8))) 293 ((((m_ls 293 n 0 S) 293 1) + 1) - (((m_ls 293 n 0 S) 293 1) + 1) / ((m_ls 293 n 0 S) 285 8) * ((m_ls 293 n 0 S) 285 8)) n 0 (-1))), .ref 293]) rfl rfl rfl rfl ?_
        refine ax_s (pc' := 158) (st' := [.int (((am_u (am_u (m_ls 293 n 0 S) 293 0 (((m_ls 293 n 0 S) 293 0) + 1)) 293 1 ((((m_ls 293 n 0 S) 293 1) + 1) - (((m_ls 293 n 0 S) 293 1) + 1) / ((m_ls 293 n 0 S) 285 8) * ((m_ls 293 n 0 S) 285 8))) 293 (27 + i)) + 1), .int (27 + (m_pin (am_u (am_u (m_ls 293 n 0 S) 293 0 (((m_ls 293 n 0 S) 293 0) + 1)) 293 1 ((((m_ls 293 n 0 S) 293 1) + 1) - (((m_ls 293 n 0 S) 293 1) + 1) / ((m_ls 293 n 0 S) 285 8) * ((m_ls 293 n 0 S) 285 8))) 293 ((((m_ls 293 n 0 S) 293 1) + 1) - (((m_ls 293 n 0 S) 293 1) + 1) / ((m_ls 293 n 0 S) 285 8) * ((m_ls 293 n 0 S) 285 8)) n 0 (-1))), .ref 293]) rfl rfl rfl rfl ?_
        refine ax_ast (j := (27 + i)) rfl (hh_293 _ _ _) rfl (am_na (x := 27) (y := i) rfl ei) (by omega) (by decide) (am_hh_set _ _ _ 293 (27 + i) _ rfl) ?_
        refine ax_s (pc' := 160) (st' := [.int 0]) rfl rfl rfl rfl ?_
        refine ax_r rfl rfl rfl ?_
        have e := c112
        have hq := hQ.1 e
        unfold m_s4 at hq
        rw [if_neg (show ¬ m_pin (am_u (am_u (m_ls 293 n 0 S) 293 0 (m_ls 293 n 0 S 293 0 + 1)) 293 1 (m_to (am_u (m_ls 293 n 0 S) 293 0 (m_ls 293 n 0 S 293 0 + 1)) 293)) 293 ((am_u (am_u (m_ls 293 n 0 S) 293 0 (m_ls 293 n 0 S 293 0 + 1)) 293 1 (m_to (am_u (m_ls 293 n 0 S) 293 0 (m_ls 293 n 0 S 293 0 + 1)) 293)) 293 1) n 0 (-1) < 0 from c133)] at hq
        have ec : (m_pin (am_u (am_u (m_ls 293 n 0 S) 293 0 (m_ls 293 n 0 S 293 0 + 1)) 293 1 (m_to (am_u (m_ls 293 n 0 S) 293 0 (m_ls 293 n 0 S 293 0 + 1)) 293)) 293 ((am_u (am_u (m_ls 293 n 0 S) 293 0 (m_ls 293 n 0 S 293 0 + 1)) 293 1 (m_to (am_u (m_ls 293 n 0 S) 293 0 (m_ls 293 n 0 S 293 0 + 1)) 293)) 293 1) n 0 (-1)).toNatClampNeg = i := by
          rw [show m_pin (am_u (am_u (m_ls 293 n 0 S) 293 0 (m_ls 293 n 0 S 293 0 + 1)) 293 1 (m_to (am_u (m_ls 293 n 0 S) 293 0 (m_ls 293 n 0 S 293 0 + 1)) 293)) 293 ((am_u (am_u (m_ls 293 n 0 S) 293 0 (m_ls 293 n 0 S 293 0 + 1)) 293 1 (m_to (am_u (m_ls 293 n 0 S) 293 0 (m_ls 293 n 0 S 293 0 + 1)) 293)) 293 1) n 0 (-1) = nI i from ei]
          exact nI_clamp (by omega)
        rw [ec, if_neg (show ¬ 99 ≤ (am_u (am_u (m_ls 293 n 0 S) 293 0 (m_ls 293 n 0 S 293 0 + 1)) 293 1 (m_to (am_u (m_ls 293 n 0 S) 293 0 (m_ls 293 n 0 S 293 0 + 1)) 293)) 293 (27 + i) from c145)] at hq
        exact hq
  · refine ax_s (pc' := 116) (st' := [.int 1]) rfl rfl rfl rfl ?_
    refine ax_r rfl rfl rfl ?_
    have e := c112
    refine hQ.2 e
theorem lm_loses_298 {d : Nat} {X : Nat × (Nat → Int32)} {L : Nat → Int64} {n : Nat} {Q : Option Value → am_H → Prop} (hn6 : n ≤ 6)  : ∀ (k j : Nat) (x3 : Option Value) (S1 : Nat → Nat → Int32), j + k = n → (S1 285 7 = nI n ∧ Q none (am_hh X (m_ls 298 k j S1) L)) → am_ex d 182 2 [some (.ref 285), some (.ref 298), some (.int (nI j)), x3] [] (am_hh X S1 L) Q
  | 0, j, x3, S1, hj, hQ => by
    refine ax_s (pc' := 3) (st' := [.int (nI j)]) rfl rfl rfl rfl ?_
    refine ax_s (pc' := 4) (st' := [.ref 285, .int (nI j)]) rfl rfl rfl rfl ?_
    refine ax_get rfl (hh_285 _ _ _) rfl rfl rfl ?_
    show am_ex d 182 7 [some (.ref 285), some (.ref 298), some (.int (nI j)), x3] [.int (S1 285 7), .int (nI j)] (am_hh X S1 L) _
    refine ax_cmp_ge rfl (fun c7 => ?_) (fun c7 => absurd (by rw [hQ.1]; exact nI_le (by omega) (by omega)) c7)
    refine ax_r rfl rfl rfl ?_
    exact hQ.2
  | k + 1, j, x3, S1, hj, hQ => by
    refine ax_s (pc' := 3) (st' := [.int (nI j)]) rfl rfl rfl rfl ?_
    refine ax_s (pc' := 4) (st' := [.ref 285, .int (nI j)]) rfl rfl rfl rfl ?_
    refine ax_get rfl (hh_285 _ _ _) rfl rfl rfl ?_
    show am_ex d 182 7 [some (.ref 285), some (.ref 298), some (.int (nI j)), x3] [.int (S1 285 7), .int (nI j)] (am_hh X S1 L) _
    refine ax_cmp_ge rfl (fun c7 => absurd c7 (by rw [hQ.1]; exact nI_ge (by omega) (by omega))) (fun c7 => ?_)
    refine ax_s (pc' := 11) (st' := [.ref 298]) rfl rfl rfl rfl ?_
    refine ax_s (pc' := 13) (st' := [.int 15, .ref 298]) rfl rfl rfl rfl ?_
    refine ax_s (pc' := 14) (st' := [.int (nI j), .int 15, .ref 298]) rfl rfl rfl rfl ?_
    refine ax_s (pc' := 15) (st' := [.int (15 + (nI j)), .ref 298]) rfl rfl rfl rfl ?_
    refine ax_ald (j := (15 + j)) (v := (S1 298 (15 + j))) rfl (hh_298 _ _ _) rfl (am_na (x := 15) (y := j) rfl rfl) (by omega) (by decide) rfl ?_
    refine ax_if_ne rfl (fun c16 => ?_) (fun c16 => ?_)
    · refine ax_s (pc' := 93) (ls' := [some (.ref 285), some (.ref 298), some (.int ((nI j) + 1)), x3]) (st' := []) rfl rfl rfl rfl ?_
      rw [nI_1]
      refine ax_s (pc' := 2) (st' := []) rfl rfl rfl rfl ?_
      have e : m_l1 S1 298 j = S1 := by first | (simp [m_l1, m_gs, (show am_u S1 298 (33 + j) (S1 298 (33 + j) + 1) 290 j = S1 290 j from rfl), c16]; done) | exact absurd (c36.symm.trans c56) (by decide)
      refine lm_loses_298 hn6 k (j + 1) _ _ (by omega) ⟨?_, ?_⟩
      · rw [← e, m_l1_ne _ _ _ (by decide)]; exact hQ.1
      · rw [← e]; exact hQ.2
    · refine ax_s (pc' := 20) (st' := [.ref 298]) rfl rfl rfl rfl ?_
      refine ax_s (pc' := 22) (st' := [.int 33, .ref 298]) rfl rfl rfl rfl ?_
      refine ax_s (pc' := 23) (st' := [.int (nI j), .int 33, .ref 298]) rfl rfl rfl rfl ?_
      refine ax_s (pc' := 24) (st' := [.int (33 + (nI j)), .ref 298]) rfl rfl rfl rfl ?_
      refine ax_s (pc' := 25) (st' := [.int (33 + (nI j)), .ref 298, .int (33 + (nI j)), .ref 298]) rfl rfl rfl rfl ?_
      refine ax_ald (j := (33 + j)) (v := (S1 298 (33 + j))) rfl (hh_298 _ _ _) rfl (am_na (x := 33) (y := j) rfl rfl) (by omega) (by decide) rfl ?_
      refine ax_s (pc' := 27) (st' := [.int 1, .int (S1 298 (33 + j)), .int (33 + (nI j)), .ref 298]) rfl rfl rfl rfl ?_
      refine ax_s (pc' := 28) (st' := [.int ((S1 298 (33 + j)) + 1), .int (33 + (nI j)), .ref 298]) rfl rfl rfl rfl ?_
      refine ax_ast (j := (33 + j)) rfl (hh_298 _ _ _) rfl (am_na (x := 33) (y := j) rfl rfl) (by omega) (by decide) (am_hh_set _ _ _ 298 (33 + j) _ rfl) ?_
      refine ax_s (pc' := 30) (st' := [.ref 285]) rfl rfl rfl rfl ?_
      refine ax_get rfl (hh_285 _ _ _) rfl rfl rfl ?_
      show am_ex d 182 33 [some (.ref 285), some (.ref 298), some (.int (nI j)), x3] [.ref 290] (am_hh X (am_u S1 298 (33 + j) ((S1 298 (33 + j)) + 1)) L) _
      refine ax_s (pc' := 34) (st' := [.int (nI j), .ref 290]) rfl rfl rfl rfl ?_
      refine ax_ald (j := j) (v := (S1 290 j)) rfl (hh_290 _ _ _) rfl rfl (by omega) (by decide) rfl ?_
      refine ax_s (pc' := 36) (st' := [.int 4, .int (S1 290 j)]) rfl rfl rfl rfl ?_
      refine ax_cmp_ne rfl (fun c36 => ?_) (fun c36 => ?_)
      · refine ax_s (pc' := 50) (st' := [.ref 285]) rfl rfl rfl rfl ?_
        refine ax_get rfl (hh_285 _ _ _) rfl rfl rfl ?_
        show am_ex d 182 53 [some (.ref 285), some (.ref 298), some (.int (nI j)), x3] [.ref 290] (am_hh X (am_u S1 298 (33 + j) ((S1 298 (33 + j)) + 1)) L) _
        refine ax_s (pc' := 54) (st' := [.int (nI j), .ref 290]) rfl rfl rfl rfl ?_
        refine ax_ald (j := j) (v := (S1 290 j)) rfl (hh_290 _ _ _) rfl rfl (by omega) (by decide) rfl ?_
        refine ax_s (pc' := 56) (st' := [.int 5, .int (S1 290 j)]) rfl rfl rfl rfl ?_
        refine ax_cmp_ne rfl (fun c56 => ?_) (fun c56 => ?_)
        · refine ax_s (pc' := 74) (st' := [.int 0]) rfl rfl rfl rfl ?_
          refine ax_s (pc' := 75) (ls' := [some (.ref 285), some (.ref 298), some (.int (nI j)), some (.int 0)]) (st' := []) rfl rfl rfl rfl ?_
          refine ax_s (pc' := 76) (st' := [.ref 298]) rfl rfl rfl rfl ?_
          refine ax_s (pc' := 78) (st' := [.int 15, .ref 298]) rfl rfl rfl rfl ?_
          refine ax_s (pc' := 79) (st' := [.int (nI j), .int 15, .ref 298]) rfl rfl rfl rfl ?_
          refine ax_s (pc' := 80) (st' := [.int (15 + (nI j)), .ref 298]) rfl rfl rfl rfl ?_
          refine ax_s (pc' := 81) (st' := [.int 0, .int (15 + (nI j)), .ref 298]) rfl rfl rfl rfl ?_
          refine ax_if_eq rfl (fun c81 => ?_) (fun c81 => False.elim (by revert c81; decide))
          refine ax_s (pc' := 89) (st' := [.int 0, .int (15 + (nI j)), .ref 298]) rfl rfl rfl rfl ?_
          refine ax_ast (j := (15 + j)) rfl (hh_298 _ _ _) rfl (am_na (x := 15) (y := j) rfl rfl) (by omega) (by decide) (am_hh_set _ _ _ 298 (15 + j) _ rfl) ?_
          refine ax_s (pc' := 93) (ls' := [some (.ref 285), some (.ref 298), some (.int ((nI j) + 1)), some (.int 0)]) (st' := []) rfl rfl rfl rfl ?_
          rw [nI_1]
          refine ax_s (pc' := 2) (st' := []) rfl rfl rfl rfl ?_
          have e : m_l1 S1 298 j = (am_u (am_u S1 298 (33 + j) ((S1 298 (33 + j)) + 1)) 298 (15 + j) 0) := by first | (simp [m_l1, m_gs, (show am_u S1 298 (33 + j) (S1 298 (33 + j) + 1) 290 j = S1 290 j from rfl), c16, c36, c56, c81]; done) | exact absurd (c36.symm.trans c56) (by decide)
          refine lm_loses_298 hn6 k (j + 1) _ _ (by omega) ⟨?_, ?_⟩
          · rw [← e, m_l1_ne _ _ _ (by decide)]; exact hQ.1
          · rw [← e]; exact hQ.2
        · refine ax_s (pc' := 60) (st' := [.ref 298]) rfl rfl rfl rfl ?_
          refine ax_s (pc' := 62) (st' := [.int 33, .ref 298]) rfl rfl rfl rfl ?_
          refine ax_s (pc' := 63) (st' := [.int (nI j), .int 33, .ref 298]) rfl rfl rfl rfl ?_
          refine ax_s (pc' := 64) (st' := [.int (33 + (nI j)), .ref 298]) rfl rfl rfl rfl ?_
          refine ax_ald (j := (33 + j)) (v := ((am_u S1 298 (33 + j) ((S1 298 (33 + j)) + 1)) 298 (33 + j))) rfl (hh_298 _ _ _) rfl (am_na (x := 33) (y := j) rfl rfl) (by omega) (by decide) rfl ?_
          refine ax_s (pc' := 66) (st' := [.int 2, .int ((am_u S1 298 (33 + j) ((S1 298 (33 + j)) + 1)) 298 (33 + j))]) rfl rfl rfl rfl ?_
          refine ax_cmp_lt rfl (fun c66 => ?_) (fun c66 => ?_)
          · refine ax_s (pc' := 74) (st' := [.int 0]) rfl rfl rfl rfl ?_
            refine ax_s (pc' := 75) (ls' := [some (.ref 285), some (.ref 298), some (.int (nI j)), some (.int 0)]) (st' := []) rfl rfl rfl rfl ?_
            refine ax_s (pc' := 76) (st' := [.ref 298]) rfl rfl rfl rfl ?_
            refine ax_s (pc' := 78) (st' := [.int 15, .ref 298]) rfl rfl rfl rfl ?_
            refine ax_s (pc' := 79) (st' := [.int (nI j), .int 15, .ref 298]) rfl rfl rfl rfl ?_
            refine ax_s (pc' := 80) (st' := [.int (15 + (nI j)), .ref 298]) rfl rfl rfl rfl ?_
            refine ax_s (pc' := 81) (st' := [.int 0, .int (15 + (nI j)), .ref 298]) rfl rfl rfl rfl ?_
            refine ax_if_eq rfl (fun c81 => ?_) (fun c81 => False.elim (by revert c81; decide))
            refine ax_s (pc' := 89) (st' := [.int 0, .int (15 + (nI j)), .ref 298]) rfl rfl rfl rfl ?_
            refine ax_ast (j := (15 + j)) rfl (hh_298 _ _ _) rfl (am_na (x := 15) (y := j) rfl rfl) (by omega) (by decide) (am_hh_set _ _ _ 298 (15 + j) _ rfl) ?_
            refine ax_s (pc' := 93) (ls' := [some (.ref 285), some (.ref 298), some (.int ((nI j) + 1)), some (.int 0)]) (st' := []) rfl rfl rfl rfl ?_
            rw [nI_1]
            refine ax_s (pc' := 2) (st' := []) rfl rfl rfl rfl ?_
            have e : m_l1 S1 298 j = (am_u (am_u S1 298 (33 + j) ((S1 298 (33 + j)) + 1)) 298 (15 + j) 0) := by first | (simp [m_l1, m_gs, (show am_u S1 298 (33 + j) (S1 298 (33 + j) + 1) 290 j = S1 290 j from rfl), c16, c36, c56, c66, c81]; done) | exact absurd (c36.symm.trans c56) (by decide)
            refine lm_loses_298 hn6 k (j + 1) _ _ (by omega) ⟨?_, ?_⟩
            · rw [← e, m_l1_ne _ _ _ (by decide)]; exact hQ.1
            · rw [← e]; exact hQ.2
          · refine ax_s (pc' := 70) (st' := [.int 1]) rfl rfl rfl rfl ?_
            refine ax_s (pc' := 74) (st' := [.int 1]) rfl rfl rfl rfl ?_
            refine ax_s (pc' := 75) (ls' := [some (.ref 285), some (.ref 298), some (.int (nI j)), some (.int 1)]) (st' := []) rfl rfl rfl rfl ?_
            refine ax_s (pc' := 76) (st' := [.ref 298]) rfl rfl rfl rfl ?_
            refine ax_s (pc' := 78) (st' := [.int 15, .ref 298]) rfl rfl rfl rfl ?_
            refine ax_s (pc' := 79) (st' := [.int (nI j), .int 15, .ref 298]) rfl rfl rfl rfl ?_
            refine ax_s (pc' := 80) (st' := [.int (15 + (nI j)), .ref 298]) rfl rfl rfl rfl ?_
            refine ax_s (pc' := 81) (st' := [.int 1, .int (15 + (nI j)), .ref 298]) rfl rfl rfl rfl ?_
            refine ax_if_eq rfl (fun c81 => False.elim (by revert c81; decide)) (fun c81 => ?_)
            refine ax_s (pc' := 85) (st' := [.int 3, .int (15 + (nI j)), .ref 298]) rfl rfl rfl rfl ?_
            refine ax_s (pc' := 89) (st' := [.int 3, .int (15 + (nI j)), .ref 298]) rfl rfl rfl rfl ?_
            refine ax_ast (j := (15 + j)) rfl (hh_298 _ _ _) rfl (am_na (x := 15) (y := j) rfl rfl) (by omega) (by decide) (am_hh_set _ _ _ 298 (15 + j) _ rfl) ?_
            refine ax_s (pc' := 93) (ls' := [some (.ref 285), some (.ref 298), some (.int ((nI j) + 1)), some (.int 1)]) (st' := []) rfl rfl rfl rfl ?_
            rw [nI_1]
            refine ax_s (pc' := 2) (st' := []) rfl rfl rfl rfl ?_
            have e : m_l1 S1 298 j = (am_u (am_u S1 298 (33 + j) ((S1 298 (33 + j)) + 1)) 298 (15 + j) 3) := by first | (simp [m_l1, m_gs, (show am_u S1 298 (33 + j) (S1 298 (33 + j) + 1) 290 j = S1 290 j from rfl), c16, c36, c56, c66, c81]; done) | exact absurd (c36.symm.trans c56) (by decide)
            refine lm_loses_298 hn6 k (j + 1) _ _ (by omega) ⟨?_, ?_⟩
            · rw [← e, m_l1_ne _ _ _ (by decide)]; exact hQ.1
            · rw [← e]; exact hQ.2
      · refine ax_s (pc' := 40) (st' := [.ref 298]) rfl rfl rfl rfl ?_
        refine ax_s (pc' := 42) (st' := [.int 33, .ref 298]) rfl rfl rfl rfl ?_
        refine ax_s (pc' := 43) (st' := [.int (nI j), .int 33, .ref 298]) rfl rfl rfl rfl ?_
        refine ax_s (pc' := 44) (st' := [.int (33 + (nI j)), .ref 298]) rfl rfl rfl rfl ?_
        refine ax_ald (j := (33 + j)) (v := ((am_u S1 298 (33 + j) ((S1 298 (33 + j)) + 1)) 298 (33 + j))) rfl (hh_298 _ _ _) rfl (am_na (x := 33) (y := j) rfl rfl) (by omega) (by decide) rfl ?_
        refine ax_s (pc' := 46) (st' := [.int 5, .int ((am_u S1 298 (33 + j) ((S1 298 (33 + j)) + 1)) 298 (33 + j))]) rfl rfl rfl rfl ?_
        refine ax_cmp_ge rfl (fun c46 => ?_) (fun c46 => ?_)
        · refine ax_s (pc' := 70) (st' := [.int 1]) rfl rfl rfl rfl ?_
          refine ax_s (pc' := 74) (st' := [.int 1]) rfl rfl rfl rfl ?_
          refine ax_s (pc' := 75) (ls' := [some (.ref 285), some (.ref 298), some (.int (nI j)), some (.int 1)]) (st' := []) rfl rfl rfl rfl ?_
          refine ax_s (pc' := 76) (st' := [.ref 298]) rfl rfl rfl rfl ?_
          refine ax_s (pc' := 78) (st' := [.int 15, .ref 298]) rfl rfl rfl rfl ?_
          refine ax_s (pc' := 79) (st' := [.int (nI j), .int 15, .ref 298]) rfl rfl rfl rfl ?_
          refine ax_s (pc' := 80) (st' := [.int (15 + (nI j)), .ref 298]) rfl rfl rfl rfl ?_
          refine ax_s (pc' := 81) (st' := [.int 1, .int (15 + (nI j)), .ref 298]) rfl rfl rfl rfl ?_
          refine ax_if_eq rfl (fun c81 => False.elim (by revert c81; decide)) (fun c81 => ?_)
          refine ax_s (pc' := 85) (st' := [.int 3, .int (15 + (nI j)), .ref 298]) rfl rfl rfl rfl ?_
          refine ax_s (pc' := 89) (st' := [.int 3, .int (15 + (nI j)), .ref 298]) rfl rfl rfl rfl ?_
          refine ax_ast (j := (15 + j)) rfl (hh_298 _ _ _) rfl (am_na (x := 15) (y := j) rfl rfl) (by omega) (by decide) (am_hh_set _ _ _ 298 (15 + j) _ rfl) ?_
          refine ax_s (pc' := 93) (ls' := [some (.ref 285), some (.ref 298), some (.int ((nI j) + 1)), some (.int 1)]) (st' := []) rfl rfl rfl rfl ?_
          rw [nI_1]
          refine ax_s (pc' := 2) (st' := []) rfl rfl rfl rfl ?_
          have e : m_l1 S1 298 j = (am_u (am_u S1 298 (33 + j) ((S1 298 (33 + j)) + 1)) 298 (15 + j) 3) := by first | (simp [m_l1, m_gs, (show am_u S1 298 (33 + j) (S1 298 (33 + j) + 1) 290 j = S1 290 j from rfl), c16, c36, c46, c81]; done) | exact absurd (c36.symm.trans c56) (by decide)
          refine lm_loses_298 hn6 k (j + 1) _ _ (by omega) ⟨?_, ?_⟩
          · rw [← e, m_l1_ne _ _ _ (by decide)]; exact hQ.1
          · rw [← e]; exact hQ.2
        · refine ax_s (pc' := 50) (st' := [.ref 285]) rfl rfl rfl rfl ?_
          refine ax_get rfl (hh_285 _ _ _) rfl rfl rfl ?_
          show am_ex d 182 53 [some (.ref 285), some (.ref 298), some (.int (nI j)), x3] [.ref 290] (am_hh X (am_u S1 298 (33 + j) ((S1 298 (33 + j)) + 1)) L) _
          refine ax_s (pc' := 54) (st' := [.int (nI j), .ref 290]) rfl rfl rfl rfl ?_
          refine ax_ald (j := j) (v := (S1 290 j)) rfl (hh_290 _ _ _) rfl rfl (by omega) (by decide) rfl ?_
          refine ax_s (pc' := 56) (st' := [.int 5, .int (S1 290 j)]) rfl rfl rfl rfl ?_
          refine ax_cmp_ne rfl (fun c56 => ?_) (fun c56 => ?_)
          · refine ax_s (pc' := 74) (st' := [.int 0]) rfl rfl rfl rfl ?_
            refine ax_s (pc' := 75) (ls' := [some (.ref 285), some (.ref 298), some (.int (nI j)), some (.int 0)]) (st' := []) rfl rfl rfl rfl ?_
            refine ax_s (pc' := 76) (st' := [.ref 298]) rfl rfl rfl rfl ?_
            refine ax_s (pc' := 78) (st' := [.int 15, .ref 298]) rfl rfl rfl rfl ?_
            refine ax_s (pc' := 79) (st' := [.int (nI j), .int 15, .ref 298]) rfl rfl rfl rfl ?_
            refine ax_s (pc' := 80) (st' := [.int (15 + (nI j)), .ref 298]) rfl rfl rfl rfl ?_
            refine ax_s (pc' := 81) (st' := [.int 0, .int (15 + (nI j)), .ref 298]) rfl rfl rfl rfl ?_
            refine ax_if_eq rfl (fun c81 => ?_) (fun c81 => False.elim (by revert c81; decide))
            refine ax_s (pc' := 89) (st' := [.int 0, .int (15 + (nI j)), .ref 298]) rfl rfl rfl rfl ?_
            refine ax_ast (j := (15 + j)) rfl (hh_298 _ _ _) rfl (am_na (x := 15) (y := j) rfl rfl) (by omega) (by decide) (am_hh_set _ _ _ 298 (15 + j) _ rfl) ?_
            refine ax_s (pc' := 93) (ls' := [some (.ref 285), some (.ref 298), some (.int ((nI j) + 1)), some (.int 0)]) (st' := []) rfl rfl rfl rfl ?_
            rw [nI_1]
            refine ax_s (pc' := 2) (st' := []) rfl rfl rfl rfl ?_
            have e : m_l1 S1 298 j = (am_u (am_u S1 298 (33 + j) ((S1 298 (33 + j)) + 1)) 298 (15 + j) 0) := by first | (simp [m_l1, m_gs, (show am_u S1 298 (33 + j) (S1 298 (33 + j) + 1) 290 j = S1 290 j from rfl), c16, c36, c46, c56, c81]; done) | exact absurd (c36.symm.trans c56) (by decide)
            refine lm_loses_298 hn6 k (j + 1) _ _ (by omega) ⟨?_, ?_⟩
            · rw [← e, m_l1_ne _ _ _ (by decide)]; exact hQ.1
            · rw [← e]; exact hQ.2
          · refine ax_s (pc' := 60) (st' := [.ref 298]) rfl rfl rfl rfl ?_
            refine ax_s (pc' := 62) (st' := [.int 33, .ref 298]) rfl rfl rfl rfl ?_
            refine ax_s (pc' := 63) (st' := [.int (nI j), .int 33, .ref 298]) rfl rfl rfl rfl ?_
            refine ax_s (pc' := 64) (st' := [.int (33 + (nI j)), .ref 298]) rfl rfl rfl rfl ?_
            refine ax_ald (j := (33 + j)) (v := ((am_u S1 298 (33 + j) ((S1 298 (33 + j)) + 1)) 298 (33 + j))) rfl (hh_298 _ _ _) rfl (am_na (x := 33) (y := j) rfl rfl) (by omega) (by decide) rfl ?_
            refine ax_s (pc' := 66) (st' := [.int 2, .int ((am_u S1 298 (33 + j) ((S1 298 (33 + j)) + 1)) 298 (33 + j))]) rfl rfl rfl rfl ?_
            refine ax_cmp_lt rfl (fun c66 => ?_) (fun c66 => ?_)
            · refine ax_s (pc' := 74) (st' := [.int 0]) rfl rfl rfl rfl ?_
              refine ax_s (pc' := 75) (ls' := [some (.ref 285), some (.ref 298), some (.int (nI j)), some (.int 0)]) (st' := []) rfl rfl rfl rfl ?_
              refine ax_s (pc' := 76) (st' := [.ref 298]) rfl rfl rfl rfl ?_
              refine ax_s (pc' := 78) (st' := [.int 15, .ref 298]) rfl rfl rfl rfl ?_
              refine ax_s (pc' := 79) (st' := [.int (nI j), .int 15, .ref 298]) rfl rfl rfl rfl ?_
              refine ax_s (pc' := 80) (st' := [.int (15 + (nI j)), .ref 298]) rfl rfl rfl rfl ?_
              refine ax_s (pc' := 81) (st' := [.int 0, .int (15 + (nI j)), .ref 298]) rfl rfl rfl rfl ?_
              refine ax_if_eq rfl (fun c81 => ?_) (fun c81 => False.elim (by revert c81; decide))
              refine ax_s (pc' := 89) (st' := [.int 0, .int (15 + (nI j)), .ref 298]) rfl rfl rfl rfl ?_
              refine ax_ast (j := (15 + j)) rfl (hh_298 _ _ _) rfl (am_na (x := 15) (y := j) rfl rfl) (by omega) (by decide) (am_hh_set _ _ _ 298 (15 + j) _ rfl) ?_
              refine ax_s (pc' := 93) (ls' := [some (.ref 285), some (.ref 298), some (.int ((nI j) + 1)), some (.int 0)]) (st' := []) rfl rfl rfl rfl ?_
              rw [nI_1]
              refine ax_s (pc' := 2) (st' := []) rfl rfl rfl rfl ?_
              have e : m_l1 S1 298 j = (am_u (am_u S1 298 (33 + j) ((S1 298 (33 + j)) + 1)) 298 (15 + j) 0) := by first | (simp [m_l1, m_gs, (show am_u S1 298 (33 + j) (S1 298 (33 + j) + 1) 290 j = S1 290 j from rfl), c16, c36, c46, c56, c66, c81]; done) | exact absurd (c36.symm.trans c56) (by decide)
              refine lm_loses_298 hn6 k (j + 1) _ _ (by omega) ⟨?_, ?_⟩
              · rw [← e, m_l1_ne _ _ _ (by decide)]; exact hQ.1
              · rw [← e]; exact hQ.2
            · refine ax_s (pc' := 70) (st' := [.int 1]) rfl rfl rfl rfl ?_
              refine ax_s (pc' := 74) (st' := [.int 1]) rfl rfl rfl rfl ?_
              refine ax_s (pc' := 75) (ls' := [some (.ref 285), some (.ref 298), some (.int (nI j)), some (.int 1)]) (st' := []) rfl rfl rfl rfl ?_
              refine ax_s (pc' := 76) (st' := [.ref 298]) rfl rfl rfl rfl ?_
              refine ax_s (pc' := 78) (st' := [.int 15, .ref 298]) rfl rfl rfl rfl ?_
              refine ax_s (pc' := 79) (st' := [.int (nI j), .int 15, .ref 298]) rfl rfl rfl rfl ?_
              refine ax_s (pc' := 80) (st' := [.int (15 + (nI j)), .ref 298]) rfl rfl rfl rfl ?_
              refine ax_s (pc' := 81) (st' := [.int 1, .int (15 + (nI j)), .ref 298]) rfl rfl rfl rfl ?_
              refine ax_if_eq rfl (fun c81 => False.elim (by revert c81; decide)) (fun c81 => ?_)
              refine ax_s (pc' := 85) (st' := [.int 3, .int (15 + (nI j)), .ref 298]) rfl rfl rfl rfl ?_
              refine ax_s (pc' := 89) (st' := [.int 3, .int (15 + (nI j)), .ref 298]) rfl rfl rfl rfl ?_
              refine ax_ast (j := (15 + j)) rfl (hh_298 _ _ _) rfl (am_na (x := 15) (y := j) rfl rfl) (by omega) (by decide) (am_hh_set _ _ _ 298 (15 + j) _ rfl) ?_
              refine ax_s (pc' := 93) (ls' := [some (.ref 285), some (.ref 298), some (.int ((nI j) + 1)), some (.int 1)]) (st' := []) rfl rfl rfl rfl ?_
              rw [nI_1]
              refine ax_s (pc' := 2) (st' := []) rfl rfl rfl rfl ?_
              have e : m_l1 S1 298 j = (am_u (am_u S1 298 (33 + j) ((S1 298 (33 + j)) + 1)) 298 (15 + j) 3) := by first | (simp [m_l1, m_gs, (show am_u S1 298 (33 + j) (S1 298 (33 + j) + 1) 290 j = S1 290 j from rfl), c16, c36, c46, c56, c66, c81]; done) | exact absurd (c36.symm.trans c56) (by decide)
              refine lm_loses_298 hn6 k (j + 1) _ _ (by omega) ⟨?_, ?_⟩
              · rw [← e, m_l1_ne _ _ _ (by decide)]; exact hQ.1
              · rw [← e]; exact hQ.2
theorem mt_loses_298 {d : Nat} {X : Nat × (Nat → Int32)} {S : Nat → Nat → Int32} {L : Nat → Int64} {n : Nat} {Q : Option Value → am_H → Prop} (hn : S 285 7 = nI n) (hn6 : n ≤ 6)  (hQ : Q none (am_hh X (m_ls 298 n 0 S) L)) : am_mt d 182 [.ref 285, .ref 298] (am_hh X S L) Q := by
  refine ax_in (ls := [some (.ref 285), some (.ref 298), none, none]) rfl ?_
  refine ax_s (pc' := 1) (st' := [.int 0]) rfl rfl rfl rfl ?_
  refine ax_s (pc' := 2) (ls' := [some (.ref 285), some (.ref 298), some (.int 0), none]) (st' := []) rfl rfl rfl rfl ?_
  exact lm_loses_298 hn6 n 0 _ S (by omega) ⟨hn, hQ⟩
theorem sg_step3_298 {d : Nat} {X : Nat × (Nat → Int32)} {S : Nat → Nat → Int32} {L : Nat → Int64} {n : Nat} {g : Nat} {one nx : Int32} {Q : Option Value → am_H → Prop} (hn : S 285 7 = nI n) (hn6 : n ≤ 6) (hg : S 285 8 = nI g) (hg4 : 4 ≤ g) (hg12 : g ≤ 12)  (hQ : (m_bal (am_u (m_ls 298 n 0 S) 298 0 (m_ls 298 n 0 S 298 0 + 1)) 298 (m_lean (am_u (m_ls 298 n 0 S) 298 0 (m_ls 298 n 0 S 298 0 + 1)) 298 g n (m_to (am_u (m_ls 298 n 0 S) 298 0 (m_ls 298 n 0 S 298 0 + 1)) 298)) = true → Q (some (.int 0)) (am_hh X (m_s4 (am_u (am_u (m_ls 298 n 0 S) 298 0 (m_ls 298 n 0 S 298 0 + 1)) 298 1 (m_to (am_u (m_ls 298 n 0 S) 298 0 (m_ls 298 n 0 S 298 0 + 1)) 298)) 298 n) L)) ∧ (m_bal (am_u (m_ls 298 n 0 S) 298 0 (m_ls 298 n 0 S 298 0 + 1)) 298 (m_lean (am_u (m_ls 298 n 0 S) 298 0 (m_ls 298 n 0 S 298 0 + 1)) 298 g n (m_to (am_u (m_ls 298 n 0 S) 298 0 (m_ls 298 n 0 S 298 0 + 1)) 298)) = false → Q (some (.int 1)) (am_hh X (am_u (m_ls 298 n 0 S) 298 0 (m_ls 298 n 0 S 298 0 + 1)) L))) : am_ex (d + 3) 173 76 [some (.ref 285), some (.ref 298), some (.int one), some (.int nx), none, none] [] (am_hh X S L) Q := by
  refine ax_s (pc' := 77) (st' := [.ref 285]) rfl rfl rfl rfl ?_
  refine ax_s (pc' := 78) (st' := [.ref 298, .ref 285]) rfl rfl rfl rfl ?_
  refine ax_call (vs := [.ref 285, .ref 298]) (rr := []) rfl rfl rfl ?_
  refine mt_loses_298 hn hn6 ?_
  show am_ex (d + 3) 173 81 [some (.ref 285), some (.ref 298), some (.int one), some (.int nx), none, none] [] (am_hh X (m_ls 298 n 0 S) L) _
  refine ax_s (pc' := 82) (st' := [.ref 298]) rfl rfl rfl rfl ?_
  refine ax_s (pc' := 83) (st' := [.int 0, .ref 298]) rfl rfl rfl rfl ?_
  refine ax_s (pc' := 84) (st' := [.int 0, .ref 298, .int 0, .ref 298]) rfl rfl rfl rfl ?_
  refine ax_ald (j := 0) (v := ((m_ls 298 n 0 S) 298 0)) rfl (hh_298 _ _ _) rfl rfl (by omega) (by decide) rfl ?_
  refine ax_s (pc' := 86) (st' := [.int 1, .int ((m_ls 298 n 0 S) 298 0), .int 0, .ref 298]) rfl rfl rfl rfl ?_
  refine ax_s (pc' := 87) (st' := [.int (((m_ls 298 n 0 S) 298 0) + 1), .int 0, .ref 298]) rfl rfl rfl rfl ?_
  refine ax_ast (j := 0) rfl (hh_298 _ _ _) rfl rfl (by omega) (by decide) (am_hh_set _ _ _ 298 0 _ rfl) ?_
  refine ax_s (pc' := 89) (st' := [.ref 298]) rfl rfl rfl rfl ?_
  refine ax_s (pc' := 90) (st' := [.int 1, .ref 298]) rfl rfl rfl rfl ?_
  refine ax_ald (j := 1) (v := ((m_ls 298 n 0 S) 298 1)) rfl (hh_298 _ _ _) rfl rfl (by omega) (by decide) rfl ?_
  refine ax_s (pc' := 92) (st' := [.int 1, .int ((m_ls 298 n 0 S) 298 1)]) rfl rfl rfl rfl ?_
  refine ax_s (pc' := 93) (st' := [.int (((m_ls 298 n 0 S) 298 1) + 1)]) rfl rfl rfl rfl ?_
  refine ax_s (pc' := 94) (st' := [.ref 285, .int (((m_ls 298 n 0 S) 298 1) + 1)]) rfl rfl rfl rfl ?_
  refine ax_get rfl (hh_285 _ _ _) rfl rfl rfl ?_
  show am_ex (d + 3) 173 97 [some (.ref 285), some (.ref 298), some (.int one), some (.int nx), none, none] [.int ((m_ls 298 n 0 S) 285 8), .int (((m_ls 298 n 0 S) 298 1) + 1)] (am_hh X (am_u (m_ls 298 n 0 S) 298 0 (((m_ls 298 n 0 S) 298 0) + 1)) L) _
  refine ax_irem rfl (show ¬ (m_ls 298 n 0 S) 285 8 = 0 by rw [m_ls_ne _ (by decide), hg]; exact nI_ne0 (by omega) (by omega)) ?_
  refine ax_s (pc' := 100) (ls' := [some (.ref 285), some (.ref 298), some (.int one), some (.int nx), some (.int ((((m_ls 298 n 0 S) 298 1) + 1) - (((m_ls 298 n 0 S) 298 1) + 1) / ((m_ls 298 n 0 S) 285 8) * ((m_ls 298 n 0 S) 285 8))), none]) (st' := []) rfl rfl rfl rfl ?_
  refine ax_s (pc' := 101) (st' := [.ref 285]) rfl rfl rfl rfl ?_
  refine ax_s (pc' := 102) (st' := [.ref 298, .ref 285]) rfl rfl rfl rfl ?_
  refine ax_s (pc' := 103) (st' := [.ref 285, .ref 298, .ref 285]) rfl rfl rfl rfl ?_
  refine ax_s (pc' := 104) (st' := [.ref 298, .ref 285, .ref 298, .ref 285]) rfl rfl rfl rfl ?_
  refine ax_s (pc' := 106) (st' := [.int ((((m_ls 298 n 0 S) 298 1) + 1) - (((m_ls 298 n 0 S) 298 1) + 1) / ((m_ls 298 n 0 S) 285 8) * ((m_ls 298 n 0 S) 285 8)), .ref 298, .ref 285, .ref 298, .ref 285]) rfl rfl rfl rfl ?_
  refine ax_call (vs := [.ref 285, .ref 298, .int ((((m_ls 298 n 0 S) 298 1) + 1) - (((m_ls 298 n 0 S) 298 1) + 1) / ((m_ls 298 n 0 S) 285 8) * ((m_ls 298 n 0 S) 285 8))]) (rr := [.ref 298, .ref 285]) rfl rfl rfl ?_
  refine mt_leanBy (show (m_ls 298 n 0 S) 285 7 = nI n by rw [m_ls_ne _ (by decide)]; exact hn) hn6 (show (m_ls 298 n 0 S) 285 8 = nI g by rw [m_ls_ne _ (by decide)]; exact hg) hg4 hg12 (Or.inr rfl) ?_
  show am_ex (d + 3) 173 109 [some (.ref 285), some (.ref 298), some (.int one), some (.int nx), some (.int ((((m_ls 298 n 0 S) 298 1) + 1) - (((m_ls 298 n 0 S) 298 1) + 1) / ((m_ls 298 n 0 S) 285 8) * ((m_ls 298 n 0 S) 285 8))), none] [.int (m_lean (am_u (m_ls 298 n 0 S) 298 0 (((m_ls 298 n 0 S) 298 0) + 1)) 298 g n ((((m_ls 298 n 0 S) 298 1) + 1) - (((m_ls 298 n 0 S) 298 1) + 1) / ((m_ls 298 n 0 S) 285 8) * ((m_ls 298 n 0 S) 285 8))), .ref 298, .ref 285] (am_hh X (am_u (m_ls 298 n 0 S) 298 0 (((m_ls 298 n 0 S) 298 0) + 1)) L) _
  refine ax_call (vs := [.ref 285, .ref 298, .int (m_lean (am_u (m_ls 298 n 0 S) 298 0 (((m_ls 298 n 0 S) 298 0) + 1)) 298 g n ((((m_ls 298 n 0 S) 298 1) + 1) - (((m_ls 298 n 0 S) 298 1) + 1) / ((m_ls 298 n 0 S) 285 8) * ((m_ls 298 n 0 S) 285 8)))]) (rr := []) rfl rfl rfl ?_
  refine mt_isBalance (Or.inr rfl) ?_
  show am_ex (d + 3) 173 112 [some (.ref 285), some (.ref 298), some (.int one), some (.int nx), some (.int ((((m_ls 298 n 0 S) 298 1) + 1) - (((m_ls 298 n 0 S) 298 1) + 1) / ((m_ls 298 n 0 S) 285 8) * ((m_ls 298 n 0 S) 285 8))), none] [.int (bI (m_bal (am_u (m_ls 298 n 0 S) 298 0 (((m_ls 298 n 0 S) 298 0) + 1)) 298 (m_lean (am_u (m_ls 298 n 0 S) 298 0 (((m_ls 298 n 0 S) 298 0) + 1)) 298 g n ((((m_ls 298 n 0 S) 298 1) + 1) - (((m_ls 298 n 0 S) 298 1) + 1) / ((m_ls 298 n 0 S) 285 8) * ((m_ls 298 n 0 S) 285 8)))))] (am_hh X (am_u (m_ls 298 n 0 S) 298 0 (((m_ls 298 n 0 S) 298 0) + 1)) L) _
  refine ax_bT rfl (fun c112 => ?_) (fun c112 => ?_)
  · refine ax_s (pc' := 118) (st' := [.ref 298]) rfl rfl rfl rfl ?_
    refine ax_s (pc' := 119) (st' := [.int 1, .ref 298]) rfl rfl rfl rfl ?_
    refine ax_s (pc' := 121) (st' := [.int ((((m_ls 298 n 0 S) 298 1) + 1) - (((m_ls 298 n 0 S) 298 1) + 1) / ((m_ls 298 n 0 S) 285 8) * ((m_ls 298 n 0 S) 285 8)), .int 1, .ref 298]) rfl rfl rfl rfl ?_
    refine ax_ast (j := 1) rfl (hh_298 _ _ _) rfl rfl (by omega) (by decide) (am_hh_set _ _ _ 298 1 _ rfl) ?_
    refine ax_s (pc' := 123) (st' := [.ref 285]) rfl rfl rfl rfl ?_
    refine ax_s (pc' := 124) (st' := [.ref 298, .ref 285]) rfl rfl rfl rfl ?_
    refine ax_s (pc' := 126) (st' := [.int ((((m_ls 298 n 0 S) 298 1) + 1) - (((m_ls 298 n 0 S) 298 1) + 1) / ((m_ls 298 n 0 S) 285 8) * ((m_ls 298 n 0 S) 285 8)), .ref 298, .ref 285]) rfl rfl rfl rfl ?_
    refine ax_call (vs := [.ref 285, .ref 298, .int ((((m_ls 298 n 0 S) 298 1) + 1) - (((m_ls 298 n 0 S) 298 1) + 1) / ((m_ls 298 n 0 S) 285 8) * ((m_ls 298 n 0 S) 285 8))]) (rr := []) rfl rfl rfl ?_
    refine mt_partyIn (show (m_ls 298 n 0 S) 285 7 = nI n by rw [m_ls_ne _ (by decide)]; exact hn) hn6 (Or.inr rfl) ?_
    show am_ex (d + 3) 173 129 [some (.ref 285), some (.ref 298), some (.int one), some (.int nx), some (.int ((((m_ls 298 n 0 S) 298 1) + 1) - (((m_ls 298 n 0 S) 298 1) + 1) / ((m_ls 298 n 0 S) 285 8) * ((m_ls 298 n 0 S) 285 8))), none] [.int (m_pin (am_u (am_u (m_ls 298 n 0 S) 298 0 (((m_ls 298 n 0 S) 298 0) + 1)) 298 1 ((((m_ls 298 n 0 S) 298 1) + 1) - (((m_ls 298 n 0 S) 298 1) + 1) / ((m_ls 298 n 0 S) 285 8) * ((m_ls 298 n 0 S) 285 8))) 298 ((((m_ls 298 n 0 S) 298 1) + 1) - (((m_ls 298 n 0 S) 298 1) + 1) / ((m_ls 298 n 0 S) 285 8) * ((m_ls 298 n 0 S) 285 8)) n 0 (-1))] (am_hh X (am_u (am_u (m_ls 298 n 0 S) 298 0 (((m_ls 298 n 0 S) 298 0) + 1)) 298 1 ((((m_ls 298 n 0 S) 298 1) + 1) - (((m_ls 298 n 0 S) 298 1) + 1) / ((m_ls 298 n 0 S) 285 8) * ((m_ls 298 n 0 S) 285 8))) L) _
    refine ax_s (pc' := 131) (ls' := [some (.ref 285), some (.ref 298), some (.int one), some (.int nx), some (.int ((((m_ls 298 n 0 S) 298 1) + 1) - (((m_ls 298 n 0 S) 298 1) + 1) / ((m_ls 298 n 0 S) 285 8) * ((m_ls 298 n 0 S) 285 8))), some (.int (m_pin (am_u (am_u (m_ls 298 n 0 S) 298 0 (((m_ls 298 n 0 S) 298 0) + 1)) 298 1 ((((m_ls 298 n 0 S) 298 1) + 1) - (((m_ls 298 n 0 S) 298 1) + 1) / ((m_ls 298 n 0 S) 285 8) * ((m_ls 298 n 0 S) 285 8))) 298 ((((m_ls 298 n 0 S) 298 1) + 1) - (((m_ls 298 n 0 S) 298 1) + 1) / ((m_ls 298 n 0 S) 285 8) * ((m_ls 298 n 0 S) 285 8)) n 0 (-1)))]) (st' := []) rfl rfl rfl rfl ?_
    refine ax_s (pc' := 133) (st' := [.int (m_pin (am_u (am_u (m_ls 298 n 0 S) 298 0 (((m_ls 298 n 0 S) 298 0) + 1)) 298 1 ((((m_ls 298 n 0 S) 298 1) + 1) - (((m_ls 298 n 0 S) 298 1) + 1) / ((m_ls 298 n 0 S) 285 8) * ((m_ls 298 n 0 S) 285 8))) 298 ((((m_ls 298 n 0 S) 298 1) + 1) - (((m_ls 298 n 0 S) 298 1) + 1) / ((m_ls 298 n 0 S) 285 8) * ((m_ls 298 n 0 S) 285 8)) n 0 (-1))]) rfl rfl rfl rfl ?_
    refine ax_if_lt rfl (fun c133 => ?_) (fun c133 => ?_)
    · refine ax_s (pc' := 160) (st' := [.int 0]) rfl rfl rfl rfl ?_
      refine ax_r rfl rfl rfl ?_
      have e := c112
      have hq := hQ.1 e
      unfold m_s4 at hq
      rw [if_pos (show m_pin (am_u (am_u (m_ls 298 n 0 S) 298 0 (m_ls 298 n 0 S 298 0 + 1)) 298 1 (m_to (am_u (m_ls 298 n 0 S) 298 0 (m_ls 298 n 0 S 298 0 + 1)) 298)) 298 ((am_u (am_u (m_ls 298 n 0 S) 298 0 (m_ls 298 n 0 S 298 0 + 1)) 298 1 (m_to (am_u (m_ls 298 n 0 S) 298 0 (m_ls 298 n 0 S 298 0 + 1)) 298)) 298 1) n 0 (-1) < 0 from c133)] at hq
      exact hq
    · obtain ⟨i, hi, ei⟩ := m_pin_ge c133
      refine ax_s (pc' := 137) (st' := [.ref 298]) rfl rfl rfl rfl ?_
      refine ax_s (pc' := 139) (st' := [.int 27, .ref 298]) rfl rfl rfl rfl ?_
      refine ax_s (pc' := 141) (st' := [.int (m_pin (am_u (am_u (m_ls 298 n 0 S) 298 0 (((m_ls 298 n 0 S) 298 0) + 1)) 298 1 ((((m_ls 298 n 0 S) 298 1) + 1) - (((m_ls 298 n 0 S) 298 1) + 1) / ((m_ls 298 n 0 S) 285 8) * ((m_ls 298 n 0 S) 285 8))) 298 ((((m_ls 298 n 0 S) 298 1) + 1) - (((m_ls 298 n 0 S) 298 1) + 1) / ((m_ls 298 n 0 S) 285 8) * ((m_ls 298 n 0 S) 285 8)) n 0 (-1)), .int 27, .ref 298]) rfl rfl rfl rfl ?_
      refine ax_s (pc' := 142) (st' := [.int (27 + (m_pin (am_u (am_u (m_ls 298 n 0 S) 298 0 (((m_ls 298 n 0 S) 298 0) + 1)) 298 1 ((((m_ls 298 n 0 S) 298 1) + 1) - (((m_ls 298 n 0 S) 298 1) + 1) / ((m_ls 298 n 0 S) 285 8) * ((m_ls 298 n 0 S) 285 8))) 298 ((((m_ls 298 n 0 S) 298 1) + 1) - (((m_ls 298 n 0 S) 298 1) + 1) / ((m_ls 298 n 0 S) 285 8) * ((m_ls 298 n 0 S) 285 8)) n 0 (-1))), .ref 298]) rfl rfl rfl rfl ?_
      refine ax_ald (j := (27 + i)) (v := ((am_u (am_u (m_ls 298 n 0 S) 298 0 (((m_ls 298 n 0 S) 298 0) + 1)) 298 1 ((((m_ls 298 n 0 S) 298 1) + 1) - (((m_ls 298 n 0 S) 298 1) + 1) / ((m_ls 298 n 0 S) 285 8) * ((m_ls 298 n 0 S) 285 8))) 298 (27 + i))) rfl (hh_298 _ _ _) rfl (am_na (x := 27) (y := i) rfl ei) (by omega) (by decide) rfl ?_
      refine ax_s (pc' := 145) (st' := [.int 99, .int ((am_u (am_u (m_ls 298 n 0 S) 298 0 (((m_ls 298 n 0 S) 298 0) + 1)) 298 1 ((((m_ls 298 n 0 S) 298 1) + 1) - (((m_ls 298 n 0 S) 298 1) + 1) / ((m_ls 298 n 0 S) 285 8) * ((m_ls 298 n 0 S) 285 8))) 298 (27 + i))]) rfl rfl rfl rfl ?_
      refine ax_cmp_ge rfl (fun c145 => ?_) (fun c145 => ?_)
      · refine ax_s (pc' := 160) (st' := [.int 0]) rfl rfl rfl rfl ?_
        refine ax_r rfl rfl rfl ?_
        have e := c112
        have hq := hQ.1 e
        unfold m_s4 at hq
        rw [if_neg (show ¬ m_pin (am_u (am_u (m_ls 298 n 0 S) 298 0 (m_ls 298 n 0 S 298 0 + 1)) 298 1 (m_to (am_u (m_ls 298 n 0 S) 298 0 (m_ls 298 n 0 S 298 0 + 1)) 298)) 298 ((am_u (am_u (m_ls 298 n 0 S) 298 0 (m_ls 298 n 0 S 298 0 + 1)) 298 1 (m_to (am_u (m_ls 298 n 0 S) 298 0 (m_ls 298 n 0 S 298 0 + 1)) 298)) 298 1) n 0 (-1) < 0 from c133)] at hq
        have ec : (m_pin (am_u (am_u (m_ls 298 n 0 S) 298 0 (m_ls 298 n 0 S 298 0 + 1)) 298 1 (m_to (am_u (m_ls 298 n 0 S) 298 0 (m_ls 298 n 0 S 298 0 + 1)) 298)) 298 ((am_u (am_u (m_ls 298 n 0 S) 298 0 (m_ls 298 n 0 S 298 0 + 1)) 298 1 (m_to (am_u (m_ls 298 n 0 S) 298 0 (m_ls 298 n 0 S 298 0 + 1)) 298)) 298 1) n 0 (-1)).toNatClampNeg = i := by
          rw [show m_pin (am_u (am_u (m_ls 298 n 0 S) 298 0 (m_ls 298 n 0 S 298 0 + 1)) 298 1 (m_to (am_u (m_ls 298 n 0 S) 298 0 (m_ls 298 n 0 S 298 0 + 1)) 298)) 298 ((am_u (am_u (m_ls 298 n 0 S) 298 0 (m_ls 298 n 0 S 298 0 + 1)) 298 1 (m_to (am_u (m_ls 298 n 0 S) 298 0 (m_ls 298 n 0 S 298 0 + 1)) 298)) 298 1) n 0 (-1) = nI i from ei]
          exact nI_clamp (by omega)
        rw [ec, if_pos (show 99 ≤ (am_u (am_u (m_ls 298 n 0 S) 298 0 (m_ls 298 n 0 S 298 0 + 1)) 298 1 (m_to (am_u (m_ls 298 n 0 S) 298 0 (m_ls 298 n 0 S 298 0 + 1)) 298)) 298 (27 + i) from c145)] at hq
        exact hq
      · refine ax_s (pc' := 149) (st' := [.ref 298]) rfl rfl rfl rfl ?_
        refine ax_s (pc' := 151) (st' := [.int 27, .ref 298]) rfl rfl rfl rfl ?_
        refine ax_s (pc' := 153) (st' := [.int (m_pin (am_u (am_u (m_ls 298 n 0 S) 298 0 (((m_ls 298 n 0 S) 298 0) + 1)) 298 1 ((((m_ls 298 n 0 S) 298 1) + 1) - (((m_ls 298 n 0 S) 298 1) + 1) / ((m_ls 298 n 0 S) 285 8) * ((m_ls 298 n 0 S) 285 8))) 298 ((((m_ls 298 n 0 S) 298 1) + 1) - (((m_ls 298 n 0 S) 298 1) + 1) / ((m_ls 298 n 0 S) 285 8) * ((m_ls 298 n 0 S) 285 8)) n 0 (-1)), .int 27, .ref 298]) rfl rfl rfl rfl ?_
        refine ax_s (pc' := 154) (st' := [.int (27 + (m_pin (am_u (am_u (m_ls 298 n 0 S) 298 0 (((m_ls 298 n 0 S) 298 0) + 1)) 298 1 ((((m_ls 298 n 0 S) 298 1) + 1) - (((m_ls 298 n 0 S) 298 1) + 1) / ((m_ls 298 n 0 S) 285 8) * ((m_ls 298 n 0 S) 285 8))) 298 ((((m_ls 298 n 0 S) 298 1) + 1) - (((m_ls 298 n 0 S) 298 1) + 1) / ((m_ls 298 n 0 S) 285 8) * ((m_ls 298 n 0 S) 285 8)) n 0 (-1))), .ref 298]) rfl rfl rfl rfl ?_
        refine ax_s (pc' := 155) (st' := [.int (27 + (m_pin (am_u (am_u (m_ls 298 n 0 S) 298 0 (((m_ls 298 n 0 S) 298 0) + 1)) 298 1 ((((m_ls 298 n 0 S) 298 1) + 1) - (((m_ls 298 n 0 S) 298 1) + 1) / ((m_ls 298 n 0 S) 285 8) * ((m_ls 298 n 0 S) 285 8))) 298 ((((m_ls 298 n 0 S) 298 1) + 1) - (((m_ls 298 n 0 S) 298 1) + 1) / ((m_ls 298 n 0 S) 285 8) * ((m_ls 298 n 0 S) 285 8)) n 0 (-1))), .ref 298, .int (27 + (m_pin (am_u (am_u (m_ls 298 n 0 S) 298 0 (((m_ls 298 n 0 S) 298 0) + 1)) 298 1 ((((m_ls 298 n 0 S) 298 1) + 1) - (((m_ls 298 n 0 S) 298 1) + 1) / ((m_ls 298 n 0 S) 285 8) * ((m_ls 298 n 0 S) 285 8))) 298 ((((m_ls 298 n 0 S) 298 1) + 1) - (((m_ls 298 n 0 S) 298 1) + 1) / ((m_ls 298 n 0 S) 285 8) * ((m_ls 298 n 0 S) 285 8)) n 0 (-1))), .ref 298]) rfl rfl rfl rfl ?_
        refine ax_ald (j := (27 + i)) (v := ((am_u (am_u (m_ls 298 n 0 S) 298 0 (((m_ls 298 n 0 S) 298 0) + 1)) 298 1 ((((m_ls 298 n 0 S) 298 1) + 1) - (((m_ls 298 n 0 S) 298 1) + 1) / ((m_ls 298 n 0 S) 285 8) * ((m_ls 298 n 0 S) 285 8))) 298 (27 + i))) rfl (hh_298 _ _ _) rfl (am_na (x := 27) (y := i) rfl ei) (by omega) (by decide) rfl ?_
        refine ax_s (pc' := 157) (st' := [.int 1, .int ((am_u (am_u (m_ls 298 n 0 S) 298 0 (((m_ls 298 n 0 S) 298 0) + 1)) 298 1 ((((m_ls 298 n 0 S) 298 1) + 1) - (((m_ls 298 n 0 S) 298 1) + 1) / ((m_ls 298 n 0 S) 285 8) * ((m_ls 298 n 0 S) 285 8))) 298 (27 + i)), .int (27 + (m_pin (am_u (am_u (m_ls 298 n 0 S) 298 0 (((m_ls 298 n 0 S) 298 0) + 1)) 298 1 ((((m_ls 298 n 0 S) 298 1) + 1) - (((m_ls 298 n 0 S) 298 1) + 1) / ((m_ls 298 n 0 S) 285 8) * ((m_ls 298 n 0 S) 285 8))) 298 ((((m_ls 298 n 0 S) 298 1) + 1) - (((m_ls 298 n 0 S) 298 1) + 1) / ((m_ls 298 n 0 S) 285 8) * ((m_ls 298 n 0 S) 285 8)) n 0 (-1))), .ref 298]) rfl rfl rfl rfl ?_
        refine ax_s (pc' := 158) (st' := [.int (((am_u (am_u (m_ls 298 n 0 S) 298 0 (((m_ls 298 n 0 S) 298 0) + 1)) 298 1 ((((m_ls 298 n 0 S) 298 1) + 1) - (((m_ls 298 n 0 S) 298 1) + 1) / ((m_ls 298 n 0 S) 285 8) * ((m_ls 298 n 0 S) 285 8))) 298 (27 + i)) + 1), .int (27 + (m_pin (am_u (am_u (m_ls 298 n 0 S) 298 0 (((m_ls 298 n 0 S) 298 0) + 1)) 298 1 ((((m_ls 298 n 0 S) 298 1) + 1) - (((m_ls 298 n 0 S) 298 1) + 1) / ((m_ls 298 n 0 S) 285 8) * ((m_ls 298 n 0 S) 285 8))) 298 ((((m_ls 298 n 0 S) 298 1) + 1) - (((m_ls 298 n 0 S) 298 1) + 1) / ((m_ls 298 n 0 S) 285 8) * ((m_ls 298 n 0 S) 285 8)) n 0 (-1))), .ref 298]) rfl rfl rfl rfl ?_
        refine ax_ast (j := (27 + i)) rfl (hh_298 _ _ _) rfl (am_na (x := 27) (y := i) rfl ei) (by omega) (by decide) (am_hh_set _ _ _ 298 (27 + i) _ rfl) ?_
        refine ax_s (pc' := 160) (st' := [.int 0]) rfl rfl rfl rfl ?_
        refine ax_r rfl rfl rfl ?_
        have e := c112
        have hq := hQ.1 e
        unfold m_s4 at hq
        rw [if_neg (show ¬ m_pin (am_u (am_u (m_ls 298 n 0 S) 298 0 (m_ls 298 n 0 S 298 0 + 1)) 298 1 (m_to (am_u (m_ls 298 n 0 S) 298 0 (m_ls 298 n 0 S 298 0 + 1)) 298)) 298 ((am_u (am_u (m_ls 298 n 0 S) 298 0 (m_ls 298 n 0 S 298 0 + 1)) 298 1 (m_to (am_u (m_ls 298 n 0 S) 298 0 (m_ls 298 n 0 S 298 0 + 1)) 298)) 298 1) n 0 (-1) < 0 from c133)] at hq
        have ec : (m_pin (am_u (am_u (m_ls 298 n 0 S) 298 0 (m_ls 298 n 0 S 298 0 + 1)) 298 1 (m_to (am_u (m_ls 298 n 0 S) 298 0 (m_ls 298 n 0 S 298 0 + 1)) 298)) 298 ((am_u (am_u (m_ls 298 n 0 S) 298 0 (m_ls 298 n 0 S 298 0 + 1)) 298 1 (m_to (am_u (m_ls 298 n 0 S) 298 0 (m_ls 298 n 0 S 298 0 + 1)) 298)) 298 1) n 0 (-1)).toNatClampNeg = i := by
          rw [show m_pin (am_u (am_u (m_ls 298 n 0 S) 298 0 (m_ls 298 n 0 S 298 0 + 1)) 298 1 (m_to (am_u (m_ls 298 n 0 S) 298 0 (m_ls 298 n 0 S 298 0 + 1)) 298)) 298 ((am_u (am_u (m_ls 298 n 0 S) 298 0 (m_ls 298 n 0 S 298 0 + 1)) 298 1 (m_to (am_u (m_ls 298 n 0 S) 298 0 (m_ls 298 n 0 S 298 0 + 1)) 298)) 298 1) n 0 (-1) = nI i from ei]
          exact nI_clamp (by omega)
        rw [ec, if_neg (show ¬ 99 ≤ (am_u (am_u (m_ls 298 n 0 S) 298 0 (m_ls 298 n 0 S 298 0 + 1)) 298 1 (m_to (am_u (m_ls 298 n 0 S) 298 0 (m_ls 298 n 0 S 298 0 + 1)) 298)) 298 (27 + i) from c145)] at hq
        exact hq
  · refine ax_s (pc' := 116) (st' := [.int 1]) rfl rfl rfl rfl ?_
    refine ax_r rfl rfl rfl ?_
    have e := c112
    refine hQ.2 e
theorem sg_step2_293 {d : Nat} {X : Nat × (Nat → Int32)} {S : Nat → Nat → Int32} {L : Nat → Int64} {n : Nat} {g : Nat} {one : Int32} {Q : Option Value → am_H → Prop} (hn : S 285 7 = nI n) (hn6 : n ≤ 6) (hg : S 285 8 = nI g) (hg4 : 4 ≤ g) (hg12 : g ≤ 12) (hrk : ∀ j, j < 6 → ∃ r, r < 6 ∧ S 297 j = nI r)  (hQ : ((m_bal (m_s3 (m_s2 S 293 n one) 293 n) 293 (m_lean (m_s3 (m_s2 S 293 n one) 293 n) 293 g n (m_to (m_s3 (m_s2 S 293 n one) 293 n) 293)) = true → Q (some (.int 0)) (am_hh X (m_s4 (am_u (m_s3 (m_s2 S 293 n one) 293 n) 293 1 (m_to (m_s3 (m_s2 S 293 n one) 293 n) 293)) 293 n) L)) ∧ (m_bal (m_s3 (m_s2 S 293 n one) 293 n) 293 (m_lean (m_s3 (m_s2 S 293 n one) 293 n) 293 g n (m_to (m_s3 (m_s2 S 293 n one) 293 n) 293)) = false → Q (some (.int 1)) (am_hh X (m_s3 (m_s2 S 293 n one) 293 n) L)))) : am_ex (d + 3) 173 39 [some (.ref 285), some (.ref 293), some (.int one), none, none, none] [] (am_hh X S L) Q := by
  refine ax_s (pc' := 40) (st' := [.ref 285]) rfl rfl rfl rfl ?_
  refine ax_s (pc' := 41) (st' := [.ref 293, .ref 285]) rfl rfl rfl rfl ?_
  refine ax_call (vs := [.ref 285, .ref 293]) (rr := []) rfl rfl rfl ?_
  refine mt_nextWaiting hn hn6 (Or.inl rfl) hrk ?_
  show am_ex (d + 3) 173 44 [some (.ref 285), some (.ref 293), some (.int one), none, none, none] [.int (m_nx S 293 n 0)] (am_hh X S L) _
  refine ax_s (pc' := 45) (ls' := [some (.ref 285), some (.ref 293), some (.int one), some (.int (m_nx S 293 n 0)), none, none]) (st' := []) rfl rfl rfl rfl ?_
  refine ax_s (pc' := 46) (st' := [.int one]) rfl rfl rfl rfl ?_
  refine ax_if_ge rfl (fun c46 => ?_) (fun c46 => ?_)
  · have e : m_s2 S 293 n one = S := if_pos c46
    rw [e] at hQ
    exact sg_step3_293 hn hn6 hg hg4 hg12 hQ
  · refine ax_s (pc' := 50) (st' := [.int (m_nx S 293 n 0)]) rfl rfl rfl rfl ?_
    refine ax_if_lt rfl (fun c50 => ?_) (fun c50 => ?_)
    · have e : m_s2 S 293 n one = S := (if_neg c46).trans (if_pos c50)
      rw [e] at hQ
      exact sg_step3_293 hn hn6 hg hg4 hg12 hQ
    · obtain ⟨i, hi, ei⟩ := m_nx_ge hrk hn6 c50
      refine ax_s (pc' := 54) (st' := [.ref 293]) rfl rfl rfl rfl ?_
      refine ax_s (pc' := 56) (st' := [.int 15, .ref 293]) rfl rfl rfl rfl ?_
      refine ax_s (pc' := 57) (st' := [.int (m_nx S 293 n 0), .int 15, .ref 293]) rfl rfl rfl rfl ?_
      refine ax_s (pc' := 58) (st' := [.int (15 + (m_nx S 293 n 0)), .ref 293]) rfl rfl rfl rfl ?_
      refine ax_s (pc' := 59) (st' := [.int 1, .int (15 + (m_nx S 293 n 0)), .ref 293]) rfl rfl rfl rfl ?_
      refine ax_ast (j := (15 + i)) rfl (hh_293 _ _ _) rfl (am_na (x := 15) (y := i) rfl ei) (by omega) (by decide) (am_hh_set _ _ _ 293 (15 + i) _ rfl) ?_
      refine ax_s (pc' := 61) (st' := [.ref 293]) rfl rfl rfl rfl ?_
      refine ax_s (pc' := 63) (st' := [.int 21, .ref 293]) rfl rfl rfl rfl ?_
      refine ax_s (pc' := 64) (st' := [.int (m_nx S 293 n 0), .int 21, .ref 293]) rfl rfl rfl rfl ?_
      refine ax_s (pc' := 65) (st' := [.int (21 + (m_nx S 293 n 0)), .ref 293]) rfl rfl rfl rfl ?_
      refine ax_s (pc' := 66) (st' := [.ref 293, .int (21 + (m_nx S 293 n 0)), .ref 293]) rfl rfl rfl rfl ?_
      refine ax_s (pc' := 67) (st' := [.int 1, .ref 293, .int (21 + (m_nx S 293 n 0)), .ref 293]) rfl rfl rfl rfl ?_
      refine ax_ald (j := 1) (v := ((am_u S 293 (15 + i) 1) 293 1)) rfl (hh_293 _ _ _) rfl rfl (by omega) (by decide) rfl ?_
      refine ax_ast (j := (21 + i)) rfl (hh_293 _ _ _) rfl (am_na (x := 21) (y := i) rfl ei) (by omega) (by decide) (am_hh_set _ _ _ 293 (21 + i) _ rfl) ?_
      refine ax_s (pc' := 70) (st' := [.ref 293]) rfl rfl rfl rfl ?_
      refine ax_s (pc' := 72) (st' := [.int 27, .ref 293]) rfl rfl rfl rfl ?_
      refine ax_s (pc' := 73) (st' := [.int (m_nx S 293 n 0), .int 27, .ref 293]) rfl rfl rfl rfl ?_
      refine ax_s (pc' := 74) (st' := [.int (27 + (m_nx S 293 n 0)), .ref 293]) rfl rfl rfl rfl ?_
      refine ax_s (pc' := 75) (st' := [.int 0, .int (27 + (m_nx S 293 n 0)), .ref 293]) rfl rfl rfl rfl ?_
      refine ax_ast (j := (27 + i)) rfl (hh_293 _ _ _) rfl (am_na (x := 27) (y := i) rfl ei) (by omega) (by decide) (am_hh_set _ _ _ 293 (27 + i) _ rfl) ?_
      have ec : (m_nx S 293 n 0).toNatClampNeg = i := by rw [ei]; exact nI_clamp (by omega)
      have e : m_s2 S 293 n one = (am_u (am_u (am_u S 293 (15 + i) 1) 293 (21 + i) ((am_u S 293 (15 + i) 1) 293 1)) 293 (27 + i) 0) := by
        refine (if_neg c46).trans ((if_neg c50).trans ?_)
        rw [ec, am_u_ni S (k := 293) (i := 15 + i) (v := 1) (show 1 ≠ 15 + i by omega)]
        rfl
      rw [e] at hQ
      exact sg_step3_293 hn hn6 hg hg4 hg12 hQ
theorem mt_stepOn_293 {d : Nat} {X : Nat × (Nat → Int32)} {S : Nat → Nat → Int32} {L : Nat → Int64} {n : Nat} {g : Nat} {Q : Option Value → am_H → Prop} (hn : S 285 7 = nI n) (hn6 : n ≤ 6) (hg : S 285 8 = nI g) (hg4 : 4 ≤ g) (hg12 : g ≤ 12) (hrk : ∀ j, j < 6 → ∃ r, r < 6 ∧ S 297 j = nI r)  (hQ : Q (some (.int (bI (!m_sb S 293 g n)))) (am_hh X (m_step S 293 g n) L)) : am_mt (d + 3) 173 [.ref 285, .ref 293] (am_hh X S L) Q := by
  refine ax_in (ls := [some (.ref 285), some (.ref 293), none, none, none, none]) rfl ?_
  refine ax_s (pc' := 1) (st' := [.ref 285]) rfl rfl rfl rfl ?_
  refine ax_s (pc' := 2) (st' := [.ref 293, .ref 285]) rfl rfl rfl rfl ?_
  refine ax_s (pc' := 3) (st' := [.ref 293, .ref 293, .ref 285]) rfl rfl rfl rfl ?_
  refine ax_s (pc' := 4) (st' := [.int 1, .ref 293, .ref 293, .ref 285]) rfl rfl rfl rfl ?_
  refine ax_ald (j := 1) (v := (S 293 1)) rfl (hh_293 _ _ _) rfl rfl (by omega) (by decide) rfl ?_
  refine ax_call (vs := [.ref 285, .ref 293, .int (S 293 1)]) (rr := []) rfl rfl rfl ?_
  refine mt_partyIn hn hn6 (Or.inl rfl) ?_
  show am_ex (d + 3) 173 8 [some (.ref 285), some (.ref 293), none, none, none, none] [.int (m_pin S 293 (S 293 1) n 0 (-1))] (am_hh X S L) _
  refine ax_s (pc' := 9) (ls' := [some (.ref 285), some (.ref 293), some (.int (m_pin S 293 (S 293 1) n 0 (-1))), none, none, none]) (st' := []) rfl rfl rfl rfl ?_
  refine ax_s (pc' := 10) (st' := [.int (m_pin S 293 (S 293 1) n 0 (-1))]) rfl rfl rfl rfl ?_
  refine ax_if_lt rfl (fun c10 => ?_) (fun c10 => ?_)
  · have e : m_s1 S 293 g n = (S, (m_pin S 293 (S 293 1) n 0 (-1))) := if_pos c10
    unfold m_step m_sb m_st at hQ
    rw [e] at hQ
    refine sg_step2_293 hn hn6 hg hg4 hg12 hrk ⟨fun c => ?_, fun c => ?_⟩
    · rw [c] at hQ; exact hQ
    · rw [c] at hQ; exact hQ
  · obtain ⟨i, hi, ei⟩ := m_pin_ge c10
    refine ax_s (pc' := 14) (st' := [.ref 285]) rfl rfl rfl rfl ?_
    refine ax_s (pc' := 15) (st' := [.ref 293, .ref 285]) rfl rfl rfl rfl ?_
    refine ax_s (pc' := 16) (st' := [.int (m_pin S 293 (S 293 1) n 0 (-1)), .ref 293, .ref 285]) rfl rfl rfl rfl ?_
    refine ax_call (vs := [.ref 285, .ref 293, .int (m_pin S 293 (S 293 1) n 0 (-1))]) (rr := []) rfl rfl rfl ?_
    refine mt_isDone hn hn6 hg hg4 hg12 (Or.inl rfl) ei (by omega) ?_
    show am_ex (d + 3) 173 19 [some (.ref 285), some (.ref 293), some (.int (m_pin S 293 (S 293 1) n 0 (-1))), none, none, none] [.int (bI (m_dn S 293 g n i))] (am_hh X S L) _
    refine ax_bF rfl (fun c19 => ?_) (fun c19 => ?_)
    · have ec : (m_pin S 293 (S 293 1) n 0 (-1)).toNatClampNeg = i := by rw [ei]; exact nI_clamp (by omega)
      have e : m_s1 S 293 g n = (S, (m_pin S 293 (S 293 1) n 0 (-1))) := (if_neg c10).trans (if_neg (by rw [ec, c19]; decide))
      unfold m_step m_sb m_st at hQ
      rw [e] at hQ
      refine sg_step2_293 hn hn6 hg hg4 hg12 hrk ⟨fun c => ?_, fun c => ?_⟩
      · rw [c] at hQ; exact hQ
      · rw [c] at hQ; exact hQ
    · refine ax_s (pc' := 23) (st' := [.ref 293]) rfl rfl rfl rfl ?_
      refine ax_s (pc' := 25) (st' := [.int 15, .ref 293]) rfl rfl rfl rfl ?_
      refine ax_s (pc' := 26) (st' := [.int (m_pin S 293 (S 293 1) n 0 (-1)), .int 15, .ref 293]) rfl rfl rfl rfl ?_
      refine ax_s (pc' := 27) (st' := [.int (15 + (m_pin S 293 (S 293 1) n 0 (-1))), .ref 293]) rfl rfl rfl rfl ?_
      refine ax_s (pc' := 28) (st' := [.int 2, .int (15 + (m_pin S 293 (S 293 1) n 0 (-1))), .ref 293]) rfl rfl rfl rfl ?_
      refine ax_ast (j := (15 + i)) rfl (hh_293 _ _ _) rfl (am_na (x := 15) (y := i) rfl ei) (by omega) (by decide) (am_hh_set _ _ _ 293 (15 + i) _ rfl) ?_
      refine ax_s (pc' := 30) (st' := [.ref 293]) rfl rfl rfl rfl ?_
      refine ax_s (pc' := 32) (st' := [.int 21, .ref 293]) rfl rfl rfl rfl ?_
      refine ax_s (pc' := 33) (st' := [.int (m_pin S 293 (S 293 1) n 0 (-1)), .int 21, .ref 293]) rfl rfl rfl rfl ?_
      refine ax_s (pc' := 34) (st' := [.int (21 + (m_pin S 293 (S 293 1) n 0 (-1))), .ref 293]) rfl rfl rfl rfl ?_
      refine ax_s (pc' := 36) (st' := [.int (-1000000), .int (21 + (m_pin S 293 (S 293 1) n 0 (-1))), .ref 293]) rfl rfl rfl rfl ?_
      refine ax_ast (j := (21 + i)) rfl (hh_293 _ _ _) rfl (am_na (x := 21) (y := i) rfl ei) (by omega) (by decide) (am_hh_set _ _ _ 293 (21 + i) _ rfl) ?_
      refine ax_s (pc' := 38) (st' := [.int (-1)]) rfl rfl rfl rfl ?_
      refine ax_s (pc' := 39) (ls' := [some (.ref 285), some (.ref 293), some (.int (-1)), none, none, none]) (st' := []) rfl rfl rfl rfl ?_
      have ec : (m_pin S 293 (S 293 1) n 0 (-1)).toNatClampNeg = i := by rw [ei]; exact nI_clamp (by omega)
      have e : m_s1 S 293 g n = ((am_u (am_u S 293 (15 + i) 2) 293 (21 + i) (-1000000)), -1) := by
        refine (if_neg c10).trans ((if_pos (by rw [ec]; exact c19)).trans ?_)
        rw [ec]
      unfold m_step m_sb m_st at hQ
      rw [e] at hQ
      refine sg_step2_293 hn hn6 hg hg4 hg12 hrk ⟨fun c => ?_, fun c => ?_⟩
      · rw [c] at hQ; exact hQ
      · rw [c] at hQ; exact hQ
theorem sg_step2_298 {d : Nat} {X : Nat × (Nat → Int32)} {S : Nat → Nat → Int32} {L : Nat → Int64} {n : Nat} {g : Nat} {one : Int32} {Q : Option Value → am_H → Prop} (hn : S 285 7 = nI n) (hn6 : n ≤ 6) (hg : S 285 8 = nI g) (hg4 : 4 ≤ g) (hg12 : g ≤ 12) (hrk : ∀ j, j < 6 → ∃ r, r < 6 ∧ S 297 j = nI r)  (hQ : ((m_bal (m_s3 (m_s2 S 298 n one) 298 n) 298 (m_lean (m_s3 (m_s2 S 298 n one) 298 n) 298 g n (m_to (m_s3 (m_s2 S 298 n one) 298 n) 298)) = true → Q (some (.int 0)) (am_hh X (m_s4 (am_u (m_s3 (m_s2 S 298 n one) 298 n) 298 1 (m_to (m_s3 (m_s2 S 298 n one) 298 n) 298)) 298 n) L)) ∧ (m_bal (m_s3 (m_s2 S 298 n one) 298 n) 298 (m_lean (m_s3 (m_s2 S 298 n one) 298 n) 298 g n (m_to (m_s3 (m_s2 S 298 n one) 298 n) 298)) = false → Q (some (.int 1)) (am_hh X (m_s3 (m_s2 S 298 n one) 298 n) L)))) : am_ex (d + 3) 173 39 [some (.ref 285), some (.ref 298), some (.int one), none, none, none] [] (am_hh X S L) Q := by
  refine ax_s (pc' := 40) (st' := [.ref 285]) rfl rfl rfl rfl ?_
  refine ax_s (pc' := 41) (st' := [.ref 298, .ref 285]) rfl rfl rfl rfl ?_
  refine ax_call (vs := [.ref 285, .ref 298]) (rr := []) rfl rfl rfl ?_
  refine mt_nextWaiting hn hn6 (Or.inr rfl) hrk ?_
  show am_ex (d + 3) 173 44 [some (.ref 285), some (.ref 298), some (.int one), none, none, none] [.int (m_nx S 298 n 0)] (am_hh X S L) _
  refine ax_s (pc' := 45) (ls' := [some (.ref 285), some (.ref 298), some (.int one), some (.int (m_nx S 298 n 0)), none, none]) (st' := []) rfl rfl rfl rfl ?_
  refine ax_s (pc' := 46) (st' := [.int one]) rfl rfl rfl rfl ?_
  refine ax_if_ge rfl (fun c46 => ?_) (fun c46 => ?_)
  · have e : m_s2 S 298 n one = S := if_pos c46
    rw [e] at hQ
    exact sg_step3_298 hn hn6 hg hg4 hg12 hQ
  · refine ax_s (pc' := 50) (st' := [.int (m_nx S 298 n 0)]) rfl rfl rfl rfl ?_
    refine ax_if_lt rfl (fun c50 => ?_) (fun c50 => ?_)
    · have e : m_s2 S 298 n one = S := (if_neg c46).trans (if_pos c50)
      rw [e] at hQ
      exact sg_step3_298 hn hn6 hg hg4 hg12 hQ
    · obtain ⟨i, hi, ei⟩ := m_nx_ge hrk hn6 c50
      refine ax_s (pc' := 54) (st' := [.ref 298]) rfl rfl rfl rfl ?_
      refine ax_s (pc' := 56) (st' := [.int 15, .ref 298]) rfl rfl rfl rfl ?_
      refine ax_s (pc' := 57) (st' := [.int (m_nx S 298 n 0), .int 15, .ref 298]) rfl rfl rfl rfl ?_
      refine ax_s (pc' := 58) (st' := [.int (15 + (m_nx S 298 n 0)), .ref 298]) rfl rfl rfl rfl ?_
      refine ax_s (pc' := 59) (st' := [.int 1, .int (15 + (m_nx S 298 n 0)), .ref 298]) rfl rfl rfl rfl ?_
      refine ax_ast (j := (15 + i)) rfl (hh_298 _ _ _) rfl (am_na (x := 15) (y := i) rfl ei) (by omega) (by decide) (am_hh_set _ _ _ 298 (15 + i) _ rfl) ?_
      refine ax_s (pc' := 61) (st' := [.ref 298]) rfl rfl rfl rfl ?_
      refine ax_s (pc' := 63) (st' := [.int 21, .ref 298]) rfl rfl rfl rfl ?_
      refine ax_s (pc' := 64) (st' := [.int (m_nx S 298 n 0), .int 21, .ref 298]) rfl rfl rfl rfl ?_
      refine ax_s (pc' := 65) (st' := [.int (21 + (m_nx S 298 n 0)), .ref 298]) rfl rfl rfl rfl ?_
      refine ax_s (pc' := 66) (st' := [.ref 298, .int (21 + (m_nx S 298 n 0)), .ref 298]) rfl rfl rfl rfl ?_
      refine ax_s (pc' := 67) (st' := [.int 1, .ref 298, .int (21 + (m_nx S 298 n 0)), .ref 298]) rfl rfl rfl rfl ?_
      refine ax_ald (j := 1) (v := ((am_u S 298 (15 + i) 1) 298 1)) rfl (hh_298 _ _ _) rfl rfl (by omega) (by decide) rfl ?_
      refine ax_ast (j := (21 + i)) rfl (hh_298 _ _ _) rfl (am_na (x := 21) (y := i) rfl ei) (by omega) (by decide) (am_hh_set _ _ _ 298 (21 + i) _ rfl) ?_
      refine ax_s (pc' := 70) (st' := [.ref 298]) rfl rfl rfl rfl ?_
      refine ax_s (pc' := 72) (st' := [.int 27, .ref 298]) rfl rfl rfl rfl ?_
      refine ax_s (pc' := 73) (st' := [.int (m_nx S 298 n 0), .int 27, .ref 298]) rfl rfl rfl rfl ?_
      refine ax_s (pc' := 74) (st' := [.int (27 + (m_nx S 298 n 0)), .ref 298]) rfl rfl rfl rfl ?_
      refine ax_s (pc' := 75) (st' := [.int 0, .int (27 + (m_nx S 298 n 0)), .ref 298]) rfl rfl rfl rfl ?_
      refine ax_ast (j := (27 + i)) rfl (hh_298 _ _ _) rfl (am_na (x := 27) (y := i) rfl ei) (by omega) (by decide) (am_hh_set _ _ _ 298 (27 + i) _ rfl) ?_
      have ec : (m_nx S 298 n 0).toNatClampNeg = i := by rw [ei]; exact nI_clamp (by omega)
      have e : m_s2 S 298 n one = (am_u (am_u (am_u S 298 (15 + i) 1) 298 (21 + i) ((am_u S 298 (15 + i) 1) 298 1)) 298 (27 + i) 0) := by
        refine (if_neg c46).trans ((if_neg c50).trans ?_)
        rw [ec, am_u_ni S (k := 298) (i := 15 + i) (v := 1) (show 1 ≠ 15 + i by omega)]
        rfl
      rw [e] at hQ
      exact sg_step3_298 hn hn6 hg hg4 hg12 hQ
theorem mt_stepOn_298 {d : Nat} {X : Nat × (Nat → Int32)} {S : Nat → Nat → Int32} {L : Nat → Int64} {n : Nat} {g : Nat} {Q : Option Value → am_H → Prop} (hn : S 285 7 = nI n) (hn6 : n ≤ 6) (hg : S 285 8 = nI g) (hg4 : 4 ≤ g) (hg12 : g ≤ 12) (hrk : ∀ j, j < 6 → ∃ r, r < 6 ∧ S 297 j = nI r)  (hQ : Q (some (.int (bI (!m_sb S 298 g n)))) (am_hh X (m_step S 298 g n) L)) : am_mt (d + 3) 173 [.ref 285, .ref 298] (am_hh X S L) Q := by
  refine ax_in (ls := [some (.ref 285), some (.ref 298), none, none, none, none]) rfl ?_
  refine ax_s (pc' := 1) (st' := [.ref 285]) rfl rfl rfl rfl ?_
  refine ax_s (pc' := 2) (st' := [.ref 298, .ref 285]) rfl rfl rfl rfl ?_
  refine ax_s (pc' := 3) (st' := [.ref 298, .ref 298, .ref 285]) rfl rfl rfl rfl ?_
  refine ax_s (pc' := 4) (st' := [.int 1, .ref 298, .ref 298, .ref 285]) rfl rfl rfl rfl ?_
  refine ax_ald (j := 1) (v := (S 298 1)) rfl (hh_298 _ _ _) rfl rfl (by omega) (by decide) rfl ?_
  refine ax_call (vs := [.ref 285, .ref 298, .int (S 298 1)]) (rr := []) rfl rfl rfl ?_
  refine mt_partyIn hn hn6 (Or.inr rfl) ?_
  show am_ex (d + 3) 173 8 [some (.ref 285), some (.ref 298), none, none, none, none] [.int (m_pin S 298 (S 298 1) n 0 (-1))] (am_hh X S L) _
  refine ax_s (pc' := 9) (ls' := [some (.ref 285), some (.ref 298), some (.int (m_pin S 298 (S 298 1) n 0 (-1))), none, none, none]) (st' := []) rfl rfl rfl rfl ?_
  refine ax_s (pc' := 10) (st' := [.int (m_pin S 298 (S 298 1) n 0 (-1))]) rfl rfl rfl rfl ?_
  refine ax_if_lt rfl (fun c10 => ?_) (fun c10 => ?_)
  · have e : m_s1 S 298 g n = (S, (m_pin S 298 (S 298 1) n 0 (-1))) := if_pos c10
    unfold m_step m_sb m_st at hQ
    rw [e] at hQ
    refine sg_step2_298 hn hn6 hg hg4 hg12 hrk ⟨fun c => ?_, fun c => ?_⟩
    · rw [c] at hQ; exact hQ
    · rw [c] at hQ; exact hQ
  · obtain ⟨i, hi, ei⟩ := m_pin_ge c10
    refine ax_s (pc' := 14) (st' := [.ref 285]) rfl rfl rfl rfl ?_
    refine ax_s (pc' := 15) (st' := [.ref 298, .ref 285]) rfl rfl rfl rfl ?_
    refine ax_s (pc' := 16) (st' := [.int (m_pin S 298 (S 298 1) n 0 (-1)), .ref 298, .ref 285]) rfl rfl rfl rfl ?_
    refine ax_call (vs := [.ref 285, .ref 298, .int (m_pin S 298 (S 298 1) n 0 (-1))]) (rr := []) rfl rfl rfl ?_
    refine mt_isDone hn hn6 hg hg4 hg12 (Or.inr rfl) ei (by omega) ?_
    show am_ex (d + 3) 173 19 [some (.ref 285), some (.ref 298), some (.int (m_pin S 298 (S 298 1) n 0 (-1))), none, none, none] [.int (bI (m_dn S 298 g n i))] (am_hh X S L) _
    refine ax_bF rfl (fun c19 => ?_) (fun c19 => ?_)
    · have ec : (m_pin S 298 (S 298 1) n 0 (-1)).toNatClampNeg = i := by rw [ei]; exact nI_clamp (by omega)
      have e : m_s1 S 298 g n = (S, (m_pin S 298 (S 298 1) n 0 (-1))) := (if_neg c10).trans (if_neg (by rw [ec, c19]; decide))
      unfold m_step m_sb m_st at hQ
      rw [e] at hQ
      refine sg_step2_298 hn hn6 hg hg4 hg12 hrk ⟨fun c => ?_, fun c => ?_⟩
      · rw [c] at hQ; exact hQ
      · rw [c] at hQ; exact hQ
    · refine ax_s (pc' := 23) (st' := [.ref 298]) rfl rfl rfl rfl ?_
      refine ax_s (pc' := 25) (st' := [.int 15, .ref 298]) rfl rfl rfl rfl ?_
      refine ax_s (pc' := 26) (st' := [.int (m_pin S 298 (S 298 1) n 0 (-1)), .int 15, .ref 298]) rfl rfl rfl rfl ?_
      refine ax_s (pc' := 27) (st' := [.int (15 + (m_pin S 298 (S 298 1) n 0 (-1))), .ref 298]) rfl rfl rfl rfl ?_
      refine ax_s (pc' := 28) (st' := [.int 2, .int (15 + (m_pin S 298 (S 298 1) n 0 (-1))), .ref 298]) rfl rfl rfl rfl ?_
      refine ax_ast (j := (15 + i)) rfl (hh_298 _ _ _) rfl (am_na (x := 15) (y := i) rfl ei) (by omega) (by decide) (am_hh_set _ _ _ 298 (15 + i) _ rfl) ?_
      refine ax_s (pc' := 30) (st' := [.ref 298]) rfl rfl rfl rfl ?_
      refine ax_s (pc' := 32) (st' := [.int 21, .ref 298]) rfl rfl rfl rfl ?_
      refine ax_s (pc' := 33) (st' := [.int (m_pin S 298 (S 298 1) n 0 (-1)), .int 21, .ref 298]) rfl rfl rfl rfl ?_
      refine ax_s (pc' := 34) (st' := [.int (21 + (m_pin S 298 (S 298 1) n 0 (-1))), .ref 298]) rfl rfl rfl rfl ?_
      refine ax_s (pc' := 36) (st' := [.int (-1000000), .int (21 + (m_pin S 298 (S 298 1) n 0 (-1))), .ref 298]) rfl rfl rfl rfl ?_
      refine ax_ast (j := (21 + i)) rfl (hh_298 _ _ _) rfl (am_na (x := 21) (y := i) rfl ei) (by omega) (by decide) (am_hh_set _ _ _ 298 (21 + i) _ rfl) ?_
      refine ax_s (pc' := 38) (st' := [.int (-1)]) rfl rfl rfl rfl ?_
      refine ax_s (pc' := 39) (ls' := [some (.ref 285), some (.ref 298), some (.int (-1)), none, none, none]) (st' := []) rfl rfl rfl rfl ?_
      have ec : (m_pin S 298 (S 298 1) n 0 (-1)).toNatClampNeg = i := by rw [ei]; exact nI_clamp (by omega)
      have e : m_s1 S 298 g n = ((am_u (am_u S 298 (15 + i) 2) 298 (21 + i) (-1000000)), -1) := by
        refine (if_neg c10).trans ((if_pos (by rw [ec]; exact c19)).trans ?_)
        rw [ec]
      unfold m_step m_sb m_st at hQ
      rw [e] at hQ
      refine sg_step2_298 hn hn6 hg hg4 hg12 hrk ⟨fun c => ?_, fun c => ?_⟩
      · rw [c] at hQ; exact hQ
      · rw [c] at hQ; exact hQ
