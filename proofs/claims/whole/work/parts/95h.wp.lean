def e_k_count (S : Nat → Nat → Int32) (q : Int32) (g n : Nat) : Int32 := (if q = 0 then (w_hm (S 17) 8 0 0) else (if q = 1 then (S 20 4) else (if q = 2 then (S 20 0) else (if q = 3 then (S 20 3) else (if q = 4 then (w_sum ((am_sub S 20) 1) g 0 0) else (if q = 5 then (w_sum ((am_sub S 20) 7) n 0 0) else (if q = 6 then (S 38 2) else (if q = 7 then (S 18 2) else (-1000001)))))))))
theorem w_k_count {d : Nat} {X : Nat × (Nat → Int32)} {S : Nat → Nat → Int32} {L : Nat → Int64} {q : Int32} {g n : Nat} {Q : Option Value → am_H → Prop} (hf : wF (am_sub S 20) g n)   (hQ : Q (some (.int (e_k_count S q g n))) (am_hh X S L)) : am_mt (d + 6) 142 [.ref 5, .int q] (am_hh X S L) Q := by
  refine ax_in (ls := [some (.ref 5), some (.int q)]) rfl ?_
  refine ax_s (pc' := 1) (st' := [.int q]) rfl rfl rfl rfl ?_
  by_cases c1 : q = 0
  · refine ax_s (pc' := 48) (ls' := [some (.ref 5), some (.int q)]) (st' := []) (h1 := (am_hh X S L)) rfl (by rw [c1]; rfl) rfl rfl ?_
    refine ax_s (pc' := 49) (st' := [.ref 5]) rfl rfl rfl rfl ?_
    refine ax_get rfl (hh_5 _ _ _) rfl rfl rfl ?_
    show am_ex (d + 6) 142 52 [some (.ref 5), some (.int q)] [.ref 6] (am_hh X S L) _
    refine ax_call (vs := [.ref 6]) (rr := []) rfl rfl rfl ?_
    refine kt_howMany ?_
    show am_ex (d + 6) 142 55 [some (.ref 5), some (.int q)] [.int (w_hm (S 17) 8 0 0)] (am_hh X S L) _
    refine ax_r rfl rfl rfl ?_
    unfold e_k_count at hQ
    rw [if_pos c1] at hQ
    exact hQ
  by_cases c2 : q = 1
  · refine ax_s (pc' := 56) (ls' := [some (.ref 5), some (.int q)]) (st' := []) (h1 := (am_hh X S L)) rfl (by rw [c2]; rfl) rfl rfl ?_
    refine ax_s (pc' := 57) (st' := [.ref 5]) rfl rfl rfl rfl ?_
    refine ax_get rfl (hh_5 _ _ _) rfl rfl rfl ?_
    show am_ex (d + 6) 142 60 [some (.ref 5), some (.int q)] [.ref 20] (am_hh X S L) _
    refine ax_get rfl (hh_20 _ _ _) rfl rfl rfl ?_
    show am_ex (d + 6) 142 63 [some (.ref 5), some (.int q)] [.int (S 20 4)] (am_hh X S L) _
    refine ax_r rfl rfl rfl ?_
    unfold e_k_count at hQ
    rw [if_neg c1, if_pos c2] at hQ
    exact hQ
  by_cases c3 : q = 2
  · refine ax_s (pc' := 64) (ls' := [some (.ref 5), some (.int q)]) (st' := []) (h1 := (am_hh X S L)) rfl (by rw [c3]; rfl) rfl rfl ?_
    refine ax_s (pc' := 65) (st' := [.ref 5]) rfl rfl rfl rfl ?_
    refine ax_get rfl (hh_5 _ _ _) rfl rfl rfl ?_
    show am_ex (d + 6) 142 68 [some (.ref 5), some (.int q)] [.ref 20] (am_hh X S L) _
    refine ax_get rfl (hh_20 _ _ _) rfl rfl rfl ?_
    show am_ex (d + 6) 142 71 [some (.ref 5), some (.int q)] [.int (S 20 0)] (am_hh X S L) _
    refine ax_r rfl rfl rfl ?_
    unfold e_k_count at hQ
    rw [if_neg c1, if_neg c2, if_pos c3] at hQ
    exact hQ
  by_cases c4 : q = 3
  · refine ax_s (pc' := 72) (ls' := [some (.ref 5), some (.int q)]) (st' := []) (h1 := (am_hh X S L)) rfl (by rw [c4]; rfl) rfl rfl ?_
    refine ax_s (pc' := 73) (st' := [.ref 5]) rfl rfl rfl rfl ?_
    refine ax_get rfl (hh_5 _ _ _) rfl rfl rfl ?_
    show am_ex (d + 6) 142 76 [some (.ref 5), some (.int q)] [.ref 20] (am_hh X S L) _
    refine ax_get rfl (hh_20 _ _ _) rfl rfl rfl ?_
    show am_ex (d + 6) 142 79 [some (.ref 5), some (.int q)] [.int (S 20 3)] (am_hh X S L) _
    refine ax_r rfl rfl rfl ?_
    unfold e_k_count at hQ
    rw [if_neg c1, if_neg c2, if_neg c3, if_pos c4] at hQ
    exact hQ
  by_cases c5 : q = 4
  · refine ax_s (pc' := 80) (ls' := [some (.ref 5), some (.int q)]) (st' := []) (h1 := (am_hh X S L)) rfl (by rw [c5]; rfl) rfl rfl ?_
    refine ax_s (pc' := 81) (st' := [.ref 5]) rfl rfl rfl rfl ?_
    refine ax_get rfl (hh_5 _ _ _) rfl rfl rfl ?_
    show am_ex (d + 6) 142 84 [some (.ref 5), some (.int q)] [.ref 20] (am_hh X S L) _
    refine ax_call (vs := [.ref 20]) (rr := []) rfl rfl rfl ?_
    refine kw (am_hh_sub isW20 X S L) (am_hh_sub isW20 X S L).symm (fun _ => ct_ballastOfAll (am_isW_k isW20 X S L) hf.2.2.1 hf.2.2.2) ?_
    show am_ex (d + 6) 142 87 [some (.ref 5), some (.int q)] [.int (w_sum ((am_sub S 20) 1) g 0 0)] (am_hh X S L) _
    refine ax_r rfl rfl rfl ?_
    unfold e_k_count at hQ
    rw [if_neg c1, if_neg c2, if_neg c3, if_neg c4, if_pos c5] at hQ
    exact hQ
  by_cases c6 : q = 5
  · refine ax_s (pc' := 88) (ls' := [some (.ref 5), some (.int q)]) (st' := []) (h1 := (am_hh X S L)) rfl (by rw [c6]; rfl) rfl rfl ?_
    refine ax_s (pc' := 89) (st' := [.ref 5]) rfl rfl rfl rfl ?_
    refine ax_get rfl (hh_5 _ _ _) rfl rfl rfl ?_
    show am_ex (d + 6) 142 92 [some (.ref 5), some (.int q)] [.ref 20] (am_hh X S L) _
    refine ax_call (vs := [.ref 20]) (rr := []) rfl rfl rfl ?_
    refine kw (am_hh_sub isW20 X S L) (am_hh_sub isW20 X S L).symm (fun _ => ct_riddenOfAll (am_isW_k isW20 X S L) hf.1 hf.2.1) ?_
    show am_ex (d + 6) 142 95 [some (.ref 5), some (.int q)] [.int (w_sum ((am_sub S 20) 7) n 0 0)] (am_hh X S L) _
    refine ax_r rfl rfl rfl ?_
    unfold e_k_count at hQ
    rw [if_neg c1, if_neg c2, if_neg c3, if_neg c4, if_neg c5, if_pos c6] at hQ
    exact hQ
  by_cases c7 : q = 6
  · refine ax_s (pc' := 96) (ls' := [some (.ref 5), some (.int q)]) (st' := []) (h1 := (am_hh X S L)) rfl (by rw [c7]; rfl) rfl rfl ?_
    refine ax_s (pc' := 97) (st' := [.ref 5]) rfl rfl rfl rfl ?_
    refine ax_get rfl (hh_5 _ _ _) rfl rfl rfl ?_
    show am_ex (d + 6) 142 100 [some (.ref 5), some (.int q)] [.ref 38] (am_hh X S L) _
    refine ax_get rfl (hh_38 _ _ _) rfl rfl rfl ?_
    show am_ex (d + 6) 142 103 [some (.ref 5), some (.int q)] [.int (S 38 2)] (am_hh X S L) _
    refine ax_r rfl rfl rfl ?_
    unfold e_k_count at hQ
    rw [if_neg c1, if_neg c2, if_neg c3, if_neg c4, if_neg c5, if_neg c6, if_pos c7] at hQ
    exact hQ
  by_cases c8 : q = 7
  · refine ax_s (pc' := 104) (ls' := [some (.ref 5), some (.int q)]) (st' := []) (h1 := (am_hh X S L)) rfl (by rw [c8]; rfl) rfl rfl ?_
    refine ax_s (pc' := 105) (st' := [.ref 5]) rfl rfl rfl rfl ?_
    refine ax_get rfl (hh_5 _ _ _) rfl rfl rfl ?_
    show am_ex (d + 6) 142 108 [some (.ref 5), some (.int q)] [.ref 18] (am_hh X S L) _
    refine ax_get rfl (hh_18 _ _ _) rfl rfl rfl ?_
    show am_ex (d + 6) 142 111 [some (.ref 5), some (.int q)] [.int (S 18 2)] (am_hh X S L) _
    refine ax_r rfl rfl rfl ?_
    unfold e_k_count at hQ
    rw [if_neg c1, if_neg c2, if_neg c3, if_neg c4, if_neg c5, if_neg c6, if_neg c7, if_pos c8] at hQ
    exact hQ
  refine ax_s (pc' := 112) (ls' := [some (.ref 5), some (.int q)]) (st' := []) (h1 := (am_hh X S L)) rfl (am_tsw [0, 1, 2, 3, 4, 5, 6, 7] (by decide) (by decide) (by intro q hq; simp only [List.mem_cons, List.not_mem_nil, or_false] at hq; rcases hq with rfl | rfl | rfl | rfl | rfl | rfl | rfl | rfl <;> first | exact lv_neT c1 (by decide) | exact lv_neT c2 (by decide) | exact lv_neT c3 (by decide) | exact lv_neT c4 (by decide) | exact lv_neT c5 (by decide) | exact lv_neT c6 (by decide) | exact lv_neT c7 (by decide) | exact lv_neT c8 (by decide)) (by decide)) rfl rfl ?_
  refine ax_s (pc' := 114) (st' := [.int (-1000001)]) rfl rfl rfl rfl ?_
  refine ax_r rfl rfl rfl ?_
  unfold e_k_count at hQ
  rw [if_neg c1, if_neg c2, if_neg c3, if_neg c4, if_neg c5, if_neg c6, if_neg c7, if_neg c8] at hQ
  exact hQ
def e_m_count (S : Nat → Nat → Int32) (q : Int32) (g n : Nat) : Int32 := (if q = 0 then (m_hm (S 287) 8 0 0) else (if q = 1 then (S 285 7) else (if q = 2 then (S 285 8) else (if q = 3 then (S 293 0) else (if q = 4 then (w_sum (fun i => S 293 (3 + i)) g 0 0) else (if q = 5 then (w_sum (fun i => S 293 (27 + i)) n 0 0) else (if q = 6 then (S 285 14) else (if q = 7 then (S 285 5) else (-1000001)))))))))
theorem w_m_count {d : Nat} {X : Nat × (Nat → Int32)} {S : Nat → Nat → Int32} {L : Nat → Int64} {q : Int32} {g n : Nat} {Q : Option Value → am_H → Prop} (hg : S 285 8 = nI g) (hg12 : g ≤ 12) (hn : S 285 7 = nI n) (hn6 : n ≤ 6)   (hQ : Q (some (.int (e_m_count S q g n))) (am_hh X S L)) : am_mt (d + 6) 234 [.ref 285, .int q] (am_hh X S L) Q := by
  refine ax_in (ls := [some (.ref 285), some (.int q)]) rfl ?_
  refine ax_s (pc' := 1) (st' := [.int q]) rfl rfl rfl rfl ?_
  by_cases c1 : q = 0
  · refine ax_s (pc' := 48) (ls' := [some (.ref 285), some (.int q)]) (st' := []) (h1 := (am_hh X S L)) rfl (by rw [c1]; rfl) rfl rfl ?_
    refine ax_s (pc' := 49) (st' := [.ref 285]) rfl rfl rfl rfl ?_
    refine ax_call (vs := [.ref 285]) (rr := []) rfl rfl rfl ?_
    refine kt_rowsThere ?_
    show am_ex (d + 6) 234 52 [some (.ref 285), some (.int q)] [.int (m_hm (S 287) 8 0 0)] (am_hh X S L) _
    refine ax_r rfl rfl rfl ?_
    unfold e_m_count at hQ
    rw [if_pos c1] at hQ
    exact hQ
  by_cases c2 : q = 1
  · refine ax_s (pc' := 53) (ls' := [some (.ref 285), some (.int q)]) (st' := []) (h1 := (am_hh X S L)) rfl (by rw [c2]; rfl) rfl rfl ?_
    refine ax_s (pc' := 54) (st' := [.ref 285]) rfl rfl rfl rfl ?_
    refine ax_get rfl (hh_285 _ _ _) rfl rfl rfl ?_
    show am_ex (d + 6) 234 57 [some (.ref 285), some (.int q)] [.int (S 285 7)] (am_hh X S L) _
    refine ax_r rfl rfl rfl ?_
    unfold e_m_count at hQ
    rw [if_neg c1, if_pos c2] at hQ
    exact hQ
  by_cases c3 : q = 2
  · refine ax_s (pc' := 58) (ls' := [some (.ref 285), some (.int q)]) (st' := []) (h1 := (am_hh X S L)) rfl (by rw [c3]; rfl) rfl rfl ?_
    refine ax_s (pc' := 59) (st' := [.ref 285]) rfl rfl rfl rfl ?_
    refine ax_get rfl (hh_285 _ _ _) rfl rfl rfl ?_
    show am_ex (d + 6) 234 62 [some (.ref 285), some (.int q)] [.int (S 285 8)] (am_hh X S L) _
    refine ax_r rfl rfl rfl ?_
    unfold e_m_count at hQ
    rw [if_neg c1, if_neg c2, if_pos c3] at hQ
    exact hQ
  by_cases c4 : q = 3
  · refine ax_s (pc' := 63) (ls' := [some (.ref 285), some (.int q)]) (st' := []) (h1 := (am_hh X S L)) rfl (by rw [c4]; rfl) rfl rfl ?_
    refine ax_s (pc' := 64) (st' := [.ref 285]) rfl rfl rfl rfl ?_
    refine ax_get rfl (hh_285 _ _ _) rfl rfl rfl ?_
    show am_ex (d + 6) 234 67 [some (.ref 285), some (.int q)] [.ref 293] (am_hh X S L) _
    refine ax_s (pc' := 68) (st' := [.int 0, .ref 293]) rfl rfl rfl rfl ?_
    refine ax_ald (j := 0) (v := (S 293 0)) rfl (hh_293 _ _ _) rfl rfl (by decide) (by decide) rfl ?_
    refine ax_r rfl rfl rfl ?_
    unfold e_m_count at hQ
    rw [if_neg c1, if_neg c2, if_neg c3, if_pos c4] at hQ
    exact hQ
  by_cases c5 : q = 4
  · refine ax_s (pc' := 70) (ls' := [some (.ref 285), some (.int q)]) (st' := []) (h1 := (am_hh X S L)) rfl (by rw [c5]; rfl) rfl rfl ?_
    refine ax_s (pc' := 71) (st' := [.ref 285]) rfl rfl rfl rfl ?_
    refine ax_call (vs := [.ref 285]) (rr := []) rfl rfl rfl ?_
    refine kt_mballast hg hg12 ?_
    show am_ex (d + 6) 234 74 [some (.ref 285), some (.int q)] [.int (w_sum (fun i => S 293 (3 + i)) g 0 0)] (am_hh X S L) _
    refine ax_r rfl rfl rfl ?_
    unfold e_m_count at hQ
    rw [if_neg c1, if_neg c2, if_neg c3, if_neg c4, if_pos c5] at hQ
    exact hQ
  by_cases c6 : q = 5
  · refine ax_s (pc' := 75) (ls' := [some (.ref 285), some (.int q)]) (st' := []) (h1 := (am_hh X S L)) rfl (by rw [c6]; rfl) rfl rfl ?_
    refine ax_s (pc' := 76) (st' := [.ref 285]) rfl rfl rfl rfl ?_
    refine ax_s (pc' := 77) (st' := [.ref 285, .ref 285]) rfl rfl rfl rfl ?_
    refine ax_get rfl (hh_285 _ _ _) rfl rfl rfl ?_
    show am_ex (d + 6) 234 80 [some (.ref 285), some (.int q)] [.ref 293, .ref 285] (am_hh X S L) _
    refine ax_call (vs := [.ref 285, .ref 293]) (rr := []) rfl rfl rfl ?_
    refine kt_mridden hn hn6 ?_
    show am_ex (d + 6) 234 83 [some (.ref 285), some (.int q)] [.int (w_sum (fun i => S 293 (27 + i)) n 0 0)] (am_hh X S L) _
    refine ax_r rfl rfl rfl ?_
    unfold e_m_count at hQ
    rw [if_neg c1, if_neg c2, if_neg c3, if_neg c4, if_neg c5, if_pos c6] at hQ
    exact hQ
  by_cases c7 : q = 6
  · refine ax_s (pc' := 84) (ls' := [some (.ref 285), some (.int q)]) (st' := []) (h1 := (am_hh X S L)) rfl (by rw [c7]; rfl) rfl rfl ?_
    refine ax_s (pc' := 85) (st' := [.ref 285]) rfl rfl rfl rfl ?_
    refine ax_get rfl (hh_285 _ _ _) rfl rfl rfl ?_
    show am_ex (d + 6) 234 88 [some (.ref 285), some (.int q)] [.int (S 285 14)] (am_hh X S L) _
    refine ax_r rfl rfl rfl ?_
    unfold e_m_count at hQ
    rw [if_neg c1, if_neg c2, if_neg c3, if_neg c4, if_neg c5, if_neg c6, if_pos c7] at hQ
    exact hQ
  by_cases c8 : q = 7
  · refine ax_s (pc' := 89) (ls' := [some (.ref 285), some (.int q)]) (st' := []) (h1 := (am_hh X S L)) rfl (by rw [c8]; rfl) rfl rfl ?_
    refine ax_s (pc' := 90) (st' := [.ref 285]) rfl rfl rfl rfl ?_
    refine ax_get rfl (hh_285 _ _ _) rfl rfl rfl ?_
    show am_ex (d + 6) 234 93 [some (.ref 285), some (.int q)] [.int (S 285 5)] (am_hh X S L) _
    refine ax_r rfl rfl rfl ?_
    unfold e_m_count at hQ
    rw [if_neg c1, if_neg c2, if_neg c3, if_neg c4, if_neg c5, if_neg c6, if_neg c7, if_pos c8] at hQ
    exact hQ
  refine ax_s (pc' := 94) (ls' := [some (.ref 285), some (.int q)]) (st' := []) (h1 := (am_hh X S L)) rfl (am_tsw [0, 1, 2, 3, 4, 5, 6, 7] (by decide) (by decide) (by intro q hq; simp only [List.mem_cons, List.not_mem_nil, or_false] at hq; rcases hq with rfl | rfl | rfl | rfl | rfl | rfl | rfl | rfl <;> first | exact lv_neT c1 (by decide) | exact lv_neT c2 (by decide) | exact lv_neT c3 (by decide) | exact lv_neT c4 (by decide) | exact lv_neT c5 (by decide) | exact lv_neT c6 (by decide) | exact lv_neT c7 (by decide) | exact lv_neT c8 (by decide)) (by decide)) rfl rfl ?_
  refine ax_s (pc' := 96) (st' := [.int (-1000001)]) rfl rfl rfl rfl ?_
  refine ax_r rfl rfl rfl ?_
  unfold e_m_count at hQ
  rw [if_neg c1, if_neg c2, if_neg c3, if_neg c4, if_neg c5, if_neg c6, if_neg c7, if_neg c8] at hQ
  exact hQ
