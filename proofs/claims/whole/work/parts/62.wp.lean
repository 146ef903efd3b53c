def e_k_party (S : Nat → Nat → Int32) (p q : Int32) : Int32 := (if ¬ p < 0 ∧ ¬ (S 20 4) ≤ p then (if q = 0 then (S 25 (p).toNatClampNeg) else (if q = 1 then (if (S 25 p.toNatClampNeg) = 1 then (S 26 p.toNatClampNeg) else -1000000) else (if q = 2 then (S 23 (p).toNatClampNeg) else (if q = 3 then (S 24 (p).toNatClampNeg) else (if q = 4 then (S 27 (p).toNatClampNeg) else (if q = 5 then (S 28 (p).toNatClampNeg) else (-1000001))))))) else (-1000001))
theorem w_k_party {d : Nat} {X : Nat × (Nat → Int32)} {S : Nat → Nat → Int32} {L : Nat → Int64} {p q : Int32} {Q : Option Value → am_H → Prop}  (x1 : ¬ p < 0 ∧ ¬ (S 20 4) ≤ p → q = 0 → am_ix p 6 = true) (x2 : ¬ p < 0 ∧ ¬ (S 20 4) ≤ p → ¬ q = 0 → q = 1 → am_ix p 6 = true) (x3 : ¬ p < 0 ∧ ¬ (S 20 4) ≤ p → ¬ q = 0 → ¬ q = 1 → q = 2 → am_ix p 6 = true) (x4 : ¬ p < 0 ∧ ¬ (S 20 4) ≤ p → ¬ q = 0 → ¬ q = 1 → ¬ q = 2 → q = 3 → am_ix p 6 = true) (x5 : ¬ p < 0 ∧ ¬ (S 20 4) ≤ p → ¬ q = 0 → ¬ q = 1 → ¬ q = 2 → ¬ q = 3 → q = 4 → am_ix p 6 = true) (x6 : ¬ p < 0 ∧ ¬ (S 20 4) ≤ p → ¬ q = 0 → ¬ q = 1 → ¬ q = 2 → ¬ q = 3 → ¬ q = 4 → q = 5 → am_ix p 6 = true) (hQ : Q (some (.int (e_k_party S p q))) (am_hh X S L)) : am_mt (d + 6) 75 [.ref 5, .int p, .int q] (am_hh X S L) Q := by
  refine ax_in (ls := [some (.ref 5), some (.int p), some (.int q)]) rfl ?_
  refine ax_s (pc' := 1) (st' := [.ref 5]) rfl rfl rfl rfl ?_
  refine ax_get rfl (hh_5 _ _ _) rfl rfl rfl ?_
  show am_ex (d + 6) 75 4 [some (.ref 5), some (.int p), some (.int q)] [.ref 20] (am_hh X S L) _
  refine ax_s (pc' := 5) (st' := [.int p, .ref 20]) rfl rfl rfl rfl ?_
  refine ax_call (vs := [.ref 20, .int p]) (rr := []) rfl rfl rfl ?_
  refine kw (am_hh_sub isW20 X S L) (am_hh_sub isW20 X S L).symm (fun _ => ct_hasParty (am_isW_k isW20 X S L)) ?_
  show am_ex (d + 6) 75 8 [some (.ref 5), some (.int p), some (.int q)] [.int (bI (decide (¬ p < 0 ∧ ¬ (S 20 4) ≤ p)))] (am_hh X S L) _
  refine ax_pT rfl (fun c1 => ?_) (fun c1 => ?_)
  · refine ax_s (pc' := 15) (st' := [.int q]) rfl rfl rfl rfl ?_
    by_cases c2 : q = 0
    · refine ax_s (pc' := 52) (ls' := [some (.ref 5), some (.int p), some (.int q)]) (st' := []) (h1 := (am_hh X S L)) rfl (by rw [c2]; rfl) rfl rfl ?_
      refine ax_s (pc' := 53) (st' := [.ref 5]) rfl rfl rfl rfl ?_
      refine ax_get rfl (hh_5 _ _ _) rfl rfl rfl ?_
      show am_ex (d + 6) 75 56 [some (.ref 5), some (.int p), some (.int q)] [.ref 20] (am_hh X S L) _
      refine ax_get rfl (hh_20 _ _ _) rfl rfl rfl ?_
      show am_ex (d + 6) 75 59 [some (.ref 5), some (.int p), some (.int q)] [.ref 25] (am_hh X S L) _
      refine ax_s (pc' := 60) (st' := [.int p, .ref 25]) rfl rfl rfl rfl ?_
      refine ax_ald' (v := (S 25 (p).toNatClampNeg)) rfl (hh_25 _ _ _) rfl (x1 c1 c2) rfl ?_
      refine ax_r rfl rfl rfl ?_
      unfold e_k_party at hQ
      rw [if_pos c1, if_pos c2] at hQ
      exact hQ
    by_cases c3 : q = 1
    · refine ax_s (pc' := 62) (ls' := [some (.ref 5), some (.int p), some (.int q)]) (st' := []) (h1 := (am_hh X S L)) rfl (by rw [c3]; rfl) rfl rfl ?_
      refine ax_s (pc' := 63) (st' := [.ref 5]) rfl rfl rfl rfl ?_
      refine ax_get rfl (hh_5 _ _ _) rfl rfl rfl ?_
      show am_ex (d + 6) 75 66 [some (.ref 5), some (.int p), some (.int q)] [.ref 20] (am_hh X S L) _
      refine ax_s (pc' := 67) (st' := [.int p, .ref 20]) rfl rfl rfl rfl ?_
      refine ax_call (vs := [.ref 20, .int p]) (rr := []) rfl rfl rfl ?_
      refine kw (am_hh_sub isW20 X S L) (am_hh_sub isW20 X S L).symm (fun _ => ct_seatOf (am_isW_k isW20 X S L) (am_ix_nI (x2 c1 c2 c3)) (am_ix_lt (x2 c1 c2 c3))) ?_
      show am_ex (d + 6) 75 70 [some (.ref 5), some (.int p), some (.int q)] [.int (if (S 25 p.toNatClampNeg) = 1 then (S 26 p.toNatClampNeg) else -1000000)] (am_hh X S L) _
      refine ax_r rfl rfl rfl ?_
      unfold e_k_party at hQ
      rw [if_pos c1, if_neg c2, if_pos c3] at hQ
      exact hQ
    by_cases c4 : q = 2
    · refine ax_s (pc' := 71) (ls' := [some (.ref 5), some (.int p), some (.int q)]) (st' := []) (h1 := (am_hh X S L)) rfl (by rw [c4]; rfl) rfl rfl ?_
      refine ax_s (pc' := 72) (st' := [.ref 5]) rfl rfl rfl rfl ?_
      refine ax_get rfl (hh_5 _ _ _) rfl rfl rfl ?_
      show am_ex (d + 6) 75 75 [some (.ref 5), some (.int p), some (.int q)] [.ref 20] (am_hh X S L) _
      refine ax_get rfl (hh_20 _ _ _) rfl rfl rfl ?_
      show am_ex (d + 6) 75 78 [some (.ref 5), some (.int p), some (.int q)] [.ref 23] (am_hh X S L) _
      refine ax_s (pc' := 79) (st' := [.int p, .ref 23]) rfl rfl rfl rfl ?_
      refine ax_ald' (v := (S 23 (p).toNatClampNeg)) rfl (hh_23 _ _ _) rfl (x3 c1 c2 c3 c4) rfl ?_
      refine ax_r rfl rfl rfl ?_
      unfold e_k_party at hQ
      rw [if_pos c1, if_neg c2, if_neg c3, if_pos c4] at hQ
      exact hQ
    by_cases c5 : q = 3
    · refine ax_s (pc' := 81) (ls' := [some (.ref 5), some (.int p), some (.int q)]) (st' := []) (h1 := (am_hh X S L)) rfl (by rw [c5]; rfl) rfl rfl ?_
      refine ax_s (pc' := 82) (st' := [.ref 5]) rfl rfl rfl rfl ?_
      refine ax_get rfl (hh_5 _ _ _) rfl rfl rfl ?_
      show am_ex (d + 6) 75 85 [some (.ref 5), some (.int p), some (.int q)] [.ref 20] (am_hh X S L) _
      refine ax_get rfl (hh_20 _ _ _) rfl rfl rfl ?_
      show am_ex (d + 6) 75 88 [some (.ref 5), some (.int p), some (.int q)] [.ref 24] (am_hh X S L) _
      refine ax_s (pc' := 89) (st' := [.int p, .ref 24]) rfl rfl rfl rfl ?_
      refine ax_ald' (v := (S 24 (p).toNatClampNeg)) rfl (hh_24 _ _ _) rfl (x4 c1 c2 c3 c4 c5) rfl ?_
      refine ax_r rfl rfl rfl ?_
      unfold e_k_party at hQ
      rw [if_pos c1, if_neg c2, if_neg c3, if_neg c4, if_pos c5] at hQ
      exact hQ
    by_cases c6 : q = 4
    · refine ax_s (pc' := 91) (ls' := [some (.ref 5), some (.int p), some (.int q)]) (st' := []) (h1 := (am_hh X S L)) rfl (by rw [c6]; rfl) rfl rfl ?_
      refine ax_s (pc' := 92) (st' := [.ref 5]) rfl rfl rfl rfl ?_
      refine ax_get rfl (hh_5 _ _ _) rfl rfl rfl ?_
      show am_ex (d + 6) 75 95 [some (.ref 5), some (.int p), some (.int q)] [.ref 20] (am_hh X S L) _
      refine ax_get rfl (hh_20 _ _ _) rfl rfl rfl ?_
      show am_ex (d + 6) 75 98 [some (.ref 5), some (.int p), some (.int q)] [.ref 27] (am_hh X S L) _
      refine ax_s (pc' := 99) (st' := [.int p, .ref 27]) rfl rfl rfl rfl ?_
      refine ax_ald' (v := (S 27 (p).toNatClampNeg)) rfl (hh_27 _ _ _) rfl (x5 c1 c2 c3 c4 c5 c6) rfl ?_
      refine ax_r rfl rfl rfl ?_
      unfold e_k_party at hQ
      rw [if_pos c1, if_neg c2, if_neg c3, if_neg c4, if_neg c5, if_pos c6] at hQ
      exact hQ
    by_cases c7 : q = 5
    · refine ax_s (pc' := 101) (ls' := [some (.ref 5), some (.int p), some (.int q)]) (st' := []) (h1 := (am_hh X S L)) rfl (by rw [c7]; rfl) rfl rfl ?_
      refine ax_s (pc' := 102) (st' := [.ref 5]) rfl rfl rfl rfl ?_
      refine ax_get rfl (hh_5 _ _ _) rfl rfl rfl ?_
      show am_ex (d + 6) 75 105 [some (.ref 5), some (.int p), some (.int q)] [.ref 20] (am_hh X S L) _
      refine ax_get rfl (hh_20 _ _ _) rfl rfl rfl ?_
      show am_ex (d + 6) 75 108 [some (.ref 5), some (.int p), some (.int q)] [.ref 28] (am_hh X S L) _
      refine ax_s (pc' := 109) (st' := [.int p, .ref 28]) rfl rfl rfl rfl ?_
      refine ax_ald' (v := (S 28 (p).toNatClampNeg)) rfl (hh_28 _ _ _) rfl (x6 c1 c2 c3 c4 c5 c6 c7) rfl ?_
      refine ax_r rfl rfl rfl ?_
      unfold e_k_party at hQ
      rw [if_pos c1, if_neg c2, if_neg c3, if_neg c4, if_neg c5, if_neg c6, if_pos c7] at hQ
      exact hQ
    refine ax_s (pc' := 111) (ls' := [some (.ref 5), some (.int p), some (.int q)]) (st' := []) (h1 := (am_hh X S L)) rfl (am_tsw [0, 1, 2, 3, 4, 5] (by decide) (by decide) (by intro q hq; simp only [List.mem_cons, List.not_mem_nil, or_false] at hq; rcases hq with rfl | rfl | rfl | rfl | rfl | rfl <;> first | exact lv_neT c2 (by decide) | exact lv_neT c3 (by decide) | exact lv_neT c4 (by decide) | exact lv_neT c5 (by decide) | exact lv_neT c6 (by decide) | exact lv_neT c7 (by decide)) (by decide)) rfl rfl ?_
    refine ax_s (pc' := 113) (st' := [.int (-1000001)]) rfl rfl rfl rfl ?_
    refine ax_r rfl rfl rfl ?_
    unfold e_k_party at hQ
    rw [if_pos c1, if_neg c2, if_neg c3, if_neg c4, if_neg c5, if_neg c6, if_neg c7] at hQ
    exact hQ
  · refine ax_s (pc' := 13) (st' := [.int (-1000001)]) rfl rfl rfl rfl ?_
    refine ax_r rfl rfl rfl ?_
    unfold e_k_party at hQ
    rw [if_neg c1] at hQ
    exact hQ
def e_m_party (S : Nat → Nat → Int32) (p q : Int32) : Int32 := (if ¬ p < 0 ∧ ¬ (S 285 7) - 1 < p then (if q = 0 then (S 293 (15 + p).toNatClampNeg) else (if q = 1 then (S 293 (21 + p).toNatClampNeg) else (if q = 2 then (S 291 (p).toNatClampNeg) else (if q = 3 then (S 292 (p).toNatClampNeg) else (if q = 4 then (S 293 (27 + p).toNatClampNeg) else (if q = 5 then (S 293 (33 + p).toNatClampNeg) else (-1000001))))))) else (-1000001))
theorem w_m_party {d : Nat} {X : Nat × (Nat → Int32)} {S : Nat → Nat → Int32} {L : Nat → Int64} {p q : Int32} {Q : Option Value → am_H → Prop}  (x1 : ¬ p < 0 ∧ ¬ (S 285 7) - 1 < p → q = 0 → am_ix (15 + p) 39 = true) (x2 : ¬ p < 0 ∧ ¬ (S 285 7) - 1 < p → ¬ q = 0 → q = 1 → am_ix (21 + p) 39 = true) (x3 : ¬ p < 0 ∧ ¬ (S 285 7) - 1 < p → ¬ q = 0 → ¬ q = 1 → q = 2 → am_ix p 6 = true) (x4 : ¬ p < 0 ∧ ¬ (S 285 7) - 1 < p → ¬ q = 0 → ¬ q = 1 → ¬ q = 2 → q = 3 → am_ix p 6 = true) (x5 : ¬ p < 0 ∧ ¬ (S 285 7) - 1 < p → ¬ q = 0 → ¬ q = 1 → ¬ q = 2 → ¬ q = 3 → q = 4 → am_ix (27 + p) 39 = true) (x6 : ¬ p < 0 ∧ ¬ (S 285 7) - 1 < p → ¬ q = 0 → ¬ q = 1 → ¬ q = 2 → ¬ q = 3 → ¬ q = 4 → q = 5 → am_ix (33 + p) 39 = true) (hQ : Q (some (.int (e_m_party S p q))) (am_hh X S L)) : am_mt (d + 6) 191 [.ref 285, .int p, .int q] (am_hh X S L) Q := by
  refine ax_in (ls := [some (.ref 285), some (.int p), some (.int q)]) rfl ?_
  refine ax_s (pc' := 1) (st' := [.ref 285]) rfl rfl rfl rfl ?_
  refine ax_s (pc' := 2) (st' := [.int p, .ref 285]) rfl rfl rfl rfl ?_
  refine ax_call (vs := [.ref 285, .int p]) (rr := []) rfl rfl rfl ?_
  refine mt_isParty  ?_
  show am_ex (d + 6) 191 5 [some (.ref 285), some (.int p), some (.int q)] [.int (bI (decide (¬ p < 0 ∧ ¬ (S 285 7) - 1 < p)))] (am_hh X S L) _
  refine ax_pT rfl (fun c1 => ?_) (fun c1 => ?_)
  · refine ax_s (pc' := 12) (st' := [.int q]) rfl rfl rfl rfl ?_
    by_cases c2 : q = 0
    · refine ax_s (pc' := 52) (ls' := [some (.ref 285), some (.int p), some (.int q)]) (st' := []) (h1 := (am_hh X S L)) rfl (by rw [c2]; rfl) rfl rfl ?_
      refine ax_s (pc' := 53) (st' := [.ref 285]) rfl rfl rfl rfl ?_
      refine ax_get rfl (hh_285 _ _ _) rfl rfl rfl ?_
      show am_ex (d + 6) 191 56 [some (.ref 285), some (.int p), some (.int q)] [.ref 293] (am_hh X S L) _
      refine ax_s (pc' := 58) (st' := [.int 15, .ref 293]) rfl rfl rfl rfl ?_
      refine ax_s (pc' := 59) (st' := [.int p, .int 15, .ref 293]) rfl rfl rfl rfl ?_
      refine ax_s (pc' := 60) (st' := [.int (15 + p), .ref 293]) rfl rfl rfl rfl ?_
      refine ax_ald' (v := (S 293 (15 + p).toNatClampNeg)) rfl (hh_293 _ _ _) rfl (x1 c1 c2) rfl ?_
      refine ax_r rfl rfl rfl ?_
      unfold e_m_party at hQ
      rw [if_pos c1, if_pos c2] at hQ
      exact hQ
    by_cases c3 : q = 1
    · refine ax_s (pc' := 62) (ls' := [some (.ref 285), some (.int p), some (.int q)]) (st' := []) (h1 := (am_hh X S L)) rfl (by rw [c3]; rfl) rfl rfl ?_
      refine ax_s (pc' := 63) (st' := [.ref 285]) rfl rfl rfl rfl ?_
      refine ax_get rfl (hh_285 _ _ _) rfl rfl rfl ?_
      show am_ex (d + 6) 191 66 [some (.ref 285), some (.int p), some (.int q)] [.ref 293] (am_hh X S L) _
      refine ax_s (pc' := 68) (st' := [.int 21, .ref 293]) rfl rfl rfl rfl ?_
      refine ax_s (pc' := 69) (st' := [.int p, .int 21, .ref 293]) rfl rfl rfl rfl ?_
      refine ax_s (pc' := 70) (st' := [.int (21 + p), .ref 293]) rfl rfl rfl rfl ?_
      refine ax_ald' (v := (S 293 (21 + p).toNatClampNeg)) rfl (hh_293 _ _ _) rfl (x2 c1 c2 c3) rfl ?_
      refine ax_r rfl rfl rfl ?_
      unfold e_m_party at hQ
      rw [if_pos c1, if_neg c2, if_pos c3] at hQ
      exact hQ
    by_cases c4 : q = 2
    · refine ax_s (pc' := 72) (ls' := [some (.ref 285), some (.int p), some (.int q)]) (st' := []) (h1 := (am_hh X S L)) rfl (by rw [c4]; rfl) rfl rfl ?_
      refine ax_s (pc' := 73) (st' := [.ref 285]) rfl rfl rfl rfl ?_
      refine ax_get rfl (hh_285 _ _ _) rfl rfl rfl ?_
      show am_ex (d + 6) 191 76 [some (.ref 285), some (.int p), some (.int q)] [.ref 291] (am_hh X S L) _
      refine ax_s (pc' := 77) (st' := [.int p, .ref 291]) rfl rfl rfl rfl ?_
      refine ax_ald' (v := (S 291 (p).toNatClampNeg)) rfl (hh_291 _ _ _) rfl (x3 c1 c2 c3 c4) rfl ?_
      refine ax_r rfl rfl rfl ?_
      unfold e_m_party at hQ
      rw [if_pos c1, if_neg c2, if_neg c3, if_pos c4] at hQ
      exact hQ
    by_cases c5 : q = 3
    · refine ax_s (pc' := 79) (ls' := [some (.ref 285), some (.int p), some (.int q)]) (st' := []) (h1 := (am_hh X S L)) rfl (by rw [c5]; rfl) rfl rfl ?_
      refine ax_s (pc' := 80) (st' := [.ref 285]) rfl rfl rfl rfl ?_
      refine ax_get rfl (hh_285 _ _ _) rfl rfl rfl ?_
      show am_ex (d + 6) 191 83 [some (.ref 285), some (.int p), some (.int q)] [.ref 292] (am_hh X S L) _
      refine ax_s (pc' := 84) (st' := [.int p, .ref 292]) rfl rfl rfl rfl ?_
      refine ax_ald' (v := (S 292 (p).toNatClampNeg)) rfl (hh_292 _ _ _) rfl (x4 c1 c2 c3 c4 c5) rfl ?_
      refine ax_r rfl rfl rfl ?_
      unfold e_m_party at hQ
      rw [if_pos c1, if_neg c2, if_neg c3, if_neg c4, if_pos c5] at hQ
      exact hQ
    by_cases c6 : q = 4
    · refine ax_s (pc' := 86) (ls' := [some (.ref 285), some (.int p), some (.int q)]) (st' := []) (h1 := (am_hh X S L)) rfl (by rw [c6]; rfl) rfl rfl ?_
      refine ax_s (pc' := 87) (st' := [.ref 285]) rfl rfl rfl rfl ?_
      refine ax_get rfl (hh_285 _ _ _) rfl rfl rfl ?_
      show am_ex (d + 6) 191 90 [some (.ref 285), some (.int p), some (.int q)] [.ref 293] (am_hh X S L) _
      refine ax_s (pc' := 92) (st' := [.int 27, .ref 293]) rfl rfl rfl rfl ?_
      refine ax_s (pc' := 93) (st' := [.int p, .int 27, .ref 293]) rfl rfl rfl rfl ?_
      refine ax_s (pc' := 94) (st' := [.int (27 + p), .ref 293]) rfl rfl rfl rfl ?_
      refine ax_ald' (v := (S 293 (27 + p).toNatClampNeg)) rfl (hh_293 _ _ _) rfl (x5 c1 c2 c3 c4 c5 c6) rfl ?_
      refine ax_r rfl rfl rfl ?_
      unfold e_m_party at hQ
      rw [if_pos c1, if_neg c2, if_neg c3, if_neg c4, if_neg c5, if_pos c6] at hQ
      exact hQ
    by_cases c7 : q = 5
    · refine ax_s (pc' := 96) (ls' := [some (.ref 285), some (.int p), some (.int q)]) (st' := []) (h1 := (am_hh X S L)) rfl (by rw [c7]; rfl) rfl rfl ?_
      refine ax_s (pc' := 97) (st' := [.ref 285]) rfl rfl rfl rfl ?_
      refine ax_get rfl (hh_285 _ _ _) rfl rfl rfl ?_
      show am_ex (d + 6) 191 100 [some (.ref 285), some (.int p), some (.int q)] [.ref 293] (am_hh X S L) _
      refine ax_s (pc' := 102) (st' := [.int 33, .ref 293]) rfl rfl rfl rfl ?_
      refine ax_s (pc' := 103) (st' := [.int p, .int 33, .ref 293]) rfl rfl rfl rfl ?_
      refine ax_s (pc' := 104) (st' := [.int (33 + p), .ref 293]) rfl rfl rfl rfl ?_
      refine ax_ald' (v := (S 293 (33 + p).toNatClampNeg)) rfl (hh_293 _ _ _) rfl (x6 c1 c2 c3 c4 c5 c6 c7) rfl ?_
      refine ax_r rfl rfl rfl ?_
      unfold e_m_party at hQ
      rw [if_pos c1, if_neg c2, if_neg c3, if_neg c4, if_neg c5, if_neg c6, if_pos c7] at hQ
      exact hQ
    refine ax_s (pc' := 106) (ls' := [some (.ref 285), some (.int p), some (.int q)]) (st' := []) (h1 := (am_hh X S L)) rfl (am_tsw [0, 1, 2, 3, 4, 5] (by decide) (by decide) (by intro q hq; simp only [List.mem_cons, List.not_mem_nil, or_false] at hq; rcases hq with rfl | rfl | rfl | rfl | rfl | rfl <;> first | exact lv_neT c2 (by decide) | exact lv_neT c3 (by decide) | exact lv_neT c4 (by decide) | exact lv_neT c5 (by decide) | exact lv_neT c6 (by decide) | exact lv_neT c7 (by decide)) (by decide)) rfl rfl ?_
    refine ax_s (pc' := 108) (st' := [.int (-1000001)]) rfl rfl rfl rfl ?_
    refine ax_r rfl rfl rfl ?_
    unfold e_m_party at hQ
    rw [if_pos c1, if_neg c2, if_neg c3, if_neg c4, if_neg c5, if_neg c6, if_neg c7] at hQ
    exact hQ
  · refine ax_s (pc' := 10) (st' := [.int (-1000001)]) rfl rfl rfl rfl ?_
    refine ax_r rfl rfl rfl ?_
    unfold e_m_party at hQ
    rw [if_neg c1] at hQ
    exact hQ
def e_k_gondola (S : Nat → Nat → Int32) (p q : Int32) (g n : Nat) : Int32 := (if ¬ p < 0 ∧ ¬ (S 20 0) ≤ p then (if q = 0 then (w_pf (am_sub S 20) p (S 20 2)) else (if q = 1 then (w_pull (am_sub S 20) (w_pf (am_sub S 20) p (S 20 2))) else (if q = 2 then (S 21 (p).toNatClampNeg) else (if q = 3 then (w_pin (am_sub S 20) p n 0) else (-1000001))))) else (-1000001))
theorem w_k_gondola {d : Nat} {X : Nat × (Nat → Int32)} {S : Nat → Nat → Int32} {L : Nat → Int64} {p q : Int32} {g n : Nat} {Q : Option Value → am_H → Prop}  (f1 : ¬ p < 0 ∧ ¬ (S 20 0) ≤ p → ¬ q = 0 → ¬ q = 1 → ¬ q = 2 → q = 3 → wF (am_sub S 20) g n) (x1 : ¬ p < 0 ∧ ¬ (S 20 0) ≤ p → ¬ q = 0 → ¬ q = 1 → q = 2 → am_ix p 12 = true) (hQ : Q (some (.int (e_k_gondola S p q g n))) (am_hh X S L)) : am_mt (d + 6) 77 [.ref 5, .int p, .int q] (am_hh X S L) Q := by
  refine ax_in (ls := [some (.ref 5), some (.int p), some (.int q)]) rfl ?_
  refine ax_s (pc' := 1) (st' := [.ref 5]) rfl rfl rfl rfl ?_
  refine ax_get rfl (hh_5 _ _ _) rfl rfl rfl ?_
  show am_ex (d + 6) 77 4 [some (.ref 5), some (.int p), some (.int q)] [.ref 20] (am_hh X S L) _
  refine ax_s (pc' := 5) (st' := [.int p, .ref 20]) rfl rfl rfl rfl ?_
  refine ax_call (vs := [.ref 20, .int p]) (rr := []) rfl rfl rfl ?_
  refine kw (am_hh_sub isW20 X S L) (am_hh_sub isW20 X S L).symm (fun _ => ct_hasGondola (am_isW_k isW20 X S L)) ?_
  show am_ex (d + 6) 77 8 [some (.ref 5), some (.int p), some (.int q)] [.int (bI (decide (¬ p < 0 ∧ ¬ (S 20 0) ≤ p)))] (am_hh X S L) _
  refine ax_pT rfl (fun c1 => ?_) (fun c1 => ?_)
  · refine ax_s (pc' := 15) (st' := [.int q]) rfl rfl rfl rfl ?_
    by_cases c2 : q = 0
    · refine ax_s (pc' := 44) (ls' := [some (.ref 5), some (.int p), some (.int q)]) (st' := []) (h1 := (am_hh X S L)) rfl (by rw [c2]; rfl) rfl rfl ?_
      refine ax_s (pc' := 45) (st' := [.ref 5]) rfl rfl rfl rfl ?_
      refine ax_get rfl (hh_5 _ _ _) rfl rfl rfl ?_
      show am_ex (d + 6) 77 48 [some (.ref 5), some (.int p), some (.int q)] [.ref 20] (am_hh X S L) _
      refine ax_s (pc' := 49) (st' := [.int p, .ref 20]) rfl rfl rfl rfl ?_
      refine ax_call (vs := [.ref 20, .int p]) (rr := []) rfl rfl rfl ?_
      refine kw (am_hh_sub isW20 X S L) (am_hh_sub isW20 X S L).symm (fun _ => ct_placeOf (am_isW_k isW20 X S L)) ?_
      show am_ex (d + 6) 77 52 [some (.ref 5), some (.int p), some (.int q)] [.int (w_pf (am_sub S 20) p (S 20 2))] (am_hh X S L) _
      refine ax_r rfl rfl rfl ?_
      unfold e_k_gondola at hQ
      rw [if_pos c1, if_pos c2] at hQ
      exact hQ
    by_cases c3 : q = 1
    · refine ax_s (pc' := 53) (ls' := [some (.ref 5), some (.int p), some (.int q)]) (st' := []) (h1 := (am_hh X S L)) rfl (by rw [c3]; rfl) rfl rfl ?_
      refine ax_s (pc' := 54) (st' := [.ref 5]) rfl rfl rfl rfl ?_
      refine ax_get rfl (hh_5 _ _ _) rfl rfl rfl ?_
      show am_ex (d + 6) 77 57 [some (.ref 5), some (.int p), some (.int q)] [.ref 20] (am_hh X S L) _
      refine ax_s (pc' := 58) (st' := [.ref 5, .ref 20]) rfl rfl rfl rfl ?_
      refine ax_get rfl (hh_5 _ _ _) rfl rfl rfl ?_
      show am_ex (d + 6) 77 61 [some (.ref 5), some (.int p), some (.int q)] [.ref 20, .ref 20] (am_hh X S L) _
      refine ax_s (pc' := 62) (st' := [.int p, .ref 20, .ref 20]) rfl rfl rfl rfl ?_
      refine ax_call (vs := [.ref 20, .int p]) (rr := [.ref 20]) rfl rfl rfl ?_
      refine kw (am_hh_sub isW20 X S L) (am_hh_sub isW20 X S L).symm (fun _ => ct_placeOf (am_isW_k isW20 X S L)) ?_
      show am_ex (d + 6) 77 65 [some (.ref 5), some (.int p), some (.int q)] [.int (w_pf (am_sub S 20) p (S 20 2)), .ref 20] (am_hh X S L) _
      refine ax_call (vs := [.ref 20, .int (w_pf (am_sub S 20) p (S 20 2))]) (rr := []) rfl rfl rfl ?_
      refine kw (am_hh_sub isW20 X S L) (am_hh_sub isW20 X S L).symm (fun _ => ct_pullOf (am_isW_k isW20 X S L)) ?_
      show am_ex (d + 6) 77 68 [some (.ref 5), some (.int p), some (.int q)] [.int (w_pull (am_sub S 20) (w_pf (am_sub S 20) p (S 20 2)))] (am_hh X S L) _
      refine ax_r rfl rfl rfl ?_
      unfold e_k_gondola at hQ
      rw [if_pos c1, if_neg c2, if_pos c3] at hQ
      exact hQ
    by_cases c4 : q = 2
    · refine ax_s (pc' := 69) (ls' := [some (.ref 5), some (.int p), some (.int q)]) (st' := []) (h1 := (am_hh X S L)) rfl (by rw [c4]; rfl) rfl rfl ?_
      refine ax_s (pc' := 70) (st' := [.ref 5]) rfl rfl rfl rfl ?_
      refine ax_get rfl (hh_5 _ _ _) rfl rfl rfl ?_
      show am_ex (d + 6) 77 73 [some (.ref 5), some (.int p), some (.int q)] [.ref 20] (am_hh X S L) _
      refine ax_get rfl (hh_20 _ _ _) rfl rfl rfl ?_
      show am_ex (d + 6) 77 76 [some (.ref 5), some (.int p), some (.int q)] [.ref 21] (am_hh X S L) _
      refine ax_s (pc' := 77) (st' := [.int p, .ref 21]) rfl rfl rfl rfl ?_
      refine ax_ald' (v := (S 21 (p).toNatClampNeg)) rfl (hh_21 _ _ _) rfl (x1 c1 c2 c3 c4) rfl ?_
      refine ax_r rfl rfl rfl ?_
      unfold e_k_gondola at hQ
      rw [if_pos c1, if_neg c2, if_neg c3, if_pos c4] at hQ
      exact hQ
    by_cases c5 : q = 3
    · refine ax_s (pc' := 79) (ls' := [some (.ref 5), some (.int p), some (.int q)]) (st' := []) (h1 := (am_hh X S L)) rfl (by rw [c5]; rfl) rfl rfl ?_
      refine ax_s (pc' := 80) (st' := [.ref 5]) rfl rfl rfl rfl ?_
      refine ax_get rfl (hh_5 _ _ _) rfl rfl rfl ?_
      show am_ex (d + 6) 77 83 [some (.ref 5), some (.int p), some (.int q)] [.ref 20] (am_hh X S L) _
      refine ax_s (pc' := 84) (st' := [.int p, .ref 20]) rfl rfl rfl rfl ?_
      refine ax_call (vs := [.ref 20, .int p]) (rr := []) rfl rfl rfl ?_
      refine kw (am_hh_sub isW20 X S L) (am_hh_sub isW20 X S L).symm (fun _ => ct_partyIn (am_isW_k isW20 X S L) (f1 c1 c2 c3 c4 c5).1 (f1 c1 c2 c3 c4 c5).2.1) ?_
      show am_ex (d + 6) 77 87 [some (.ref 5), some (.int p), some (.int q)] [.int (w_pin (am_sub S 20) p n 0)] (am_hh X S L) _
      refine ax_r rfl rfl rfl ?_
      unfold e_k_gondola at hQ
      rw [if_pos c1, if_neg c2, if_neg c3, if_neg c4, if_pos c5] at hQ
      exact hQ
    refine ax_s (pc' := 88) (ls' := [some (.ref 5), some (.int p), some (.int q)]) (st' := []) (h1 := (am_hh X S L)) rfl (am_tsw [0, 1, 2, 3] (by decide) (by decide) (by intro q hq; simp only [List.mem_cons, List.not_mem_nil, or_false] at hq; rcases hq with rfl | rfl | rfl | rfl <;> first | exact lv_neT c2 (by decide) | exact lv_neT c3 (by decide) | exact lv_neT c4 (by decide) | exact lv_neT c5 (by decide)) (by decide)) rfl rfl ?_
    refine ax_s (pc' := 90) (st' := [.int (-1000001)]) rfl rfl rfl rfl ?_
    refine ax_r rfl rfl rfl ?_
    unfold e_k_gondola at hQ
    rw [if_pos c1, if_neg c2, if_neg c3, if_neg c4, if_neg c5] at hQ
    exact hQ
  · refine ax_s (pc' := 13) (st' := [.int (-1000001)]) rfl rfl rfl rfl ?_
    refine ax_r rfl rfl rfl ?_
    unfold e_k_gondola at hQ
    rw [if_neg c1] at hQ
    exact hQ
def e_m_gondola (S : Nat → Nat → Int32) (p q : Int32) (g n : Nat) : Int32 := (if ¬ p < 0 ∧ ¬ (S 285 8) - 1 < p then (if q = 0 then (m_pl (S 285 8) p (S 293 1)) else (if q = 1 then (m_pull (S 285 8) (m_pl (S 285 8) p (S 293 1))) else (if q = 2 then (S 293 (3 + p).toNatClampNeg) else (if q = 3 then (if 0 ≤ (m_pin S 293 p n 0 (-1)) then (m_pin S 293 p n 0 (-1)) else (-1000000)) else (-1000001))))) else (-1000001))
theorem w_m_gondola {d : Nat} {X : Nat × (Nat → Int32)} {S : Nat → Nat → Int32} {L : Nat → Int64} {p q : Int32} {g n : Nat} {Q : Option Value → am_H → Prop}  (f1 : ¬ p < 0 ∧ ¬ (S 285 8) - 1 < p → mF S g n) (x1 : ¬ p < 0 ∧ ¬ (S 285 8) - 1 < p → ¬ q = 0 → ¬ q = 1 → q = 2 → am_ix (3 + p) 39 = true) (hQ : Q (some (.int (e_m_gondola S p q g n))) (am_hh X S L)) : am_mt (d + 6) 192 [.ref 285, .int p, .int q] (am_hh X S L) Q := by
  refine ax_in (ls := [some (.ref 285), some (.int p), some (.int q), none, none]) rfl ?_
  refine ax_s (pc' := 1) (st' := [.ref 285]) rfl rfl rfl rfl ?_
  refine ax_s (pc' := 2) (st' := [.int p, .ref 285]) rfl rfl rfl rfl ?_
  refine ax_call (vs := [.ref 285, .int p]) (rr := []) rfl rfl rfl ?_
  refine mt_isGondola  ?_
  show am_ex (d + 6) 192 5 [some (.ref 285), some (.int p), some (.int q), none, none] [.int (bI (decide (¬ p < 0 ∧ ¬ (S 285 8) - 1 < p)))] (am_hh X S L) _
  refine ax_pT rfl (fun c1 => ?_) (fun c1 => ?_)
  · refine ax_s (pc' := 12) (st' := [.ref 285]) rfl rfl rfl rfl ?_
    refine ax_s (pc' := 13) (st' := [.int p, .ref 285]) rfl rfl rfl rfl ?_
    refine ax_s (pc' := 14) (st' := [.ref 285, .int p, .ref 285]) rfl rfl rfl rfl ?_
    refine ax_get rfl (hh_285 _ _ _) rfl rfl rfl ?_
    show am_ex (d + 6) 192 17 [some (.ref 285), some (.int p), some (.int q), none, none] [.ref 293, .int p, .ref 285] (am_hh X S L) _
    refine ax_s (pc' := 18) (st' := [.int 1, .ref 293, .int p, .ref 285]) rfl rfl rfl rfl ?_
    refine ax_ald (j := 1) (v := (S 293 1)) rfl (hh_293 _ _ _) rfl rfl (by decide) (by decide) rfl ?_
    refine ax_call (vs := [.ref 285, .int p, .int (S 293 1)]) (rr := []) rfl rfl rfl ?_
    refine mt_placeOf (mF_g0 (f1 c1)) ?_
    show am_ex (d + 6) 192 22 [some (.ref 285), some (.int p), some (.int q), none, none] [.int (m_pl (S 285 8) p (S 293 1))] (am_hh X S L) _
    refine ax_s (pc' := 23) (ls' := [some (.ref 285), some (.int p), some (.int q), some (.int (m_pl (S 285 8) p (S 293 1))), none]) (st' := []) rfl rfl rfl rfl ?_
    refine ax_s (pc' := 24) (st' := [.ref 285]) rfl rfl rfl rfl ?_
    refine ax_s (pc' := 25) (st' := [.ref 285, .ref 285]) rfl rfl rfl rfl ?_
    refine ax_get rfl (hh_285 _ _ _) rfl rfl rfl ?_
    show am_ex (d + 6) 192 28 [some (.ref 285), some (.int p), some (.int q), some (.int (m_pl (S 285 8) p (S 293 1))), none] [.ref 293, .ref 285] (am_hh X S L) _
    refine ax_s (pc' := 29) (st' := [.int p, .ref 293, .ref 285]) rfl rfl rfl rfl ?_
    refine ax_call (vs := [.ref 285, .ref 293, .int p]) (rr := []) rfl rfl rfl ?_
    refine mt_partyIn (f1 c1).1.1 (f1 c1).1.2 (Or.inl rfl) ?_
    show am_ex (d + 6) 192 32 [some (.ref 285), some (.int p), some (.int q), some (.int (m_pl (S 285 8) p (S 293 1))), none] [.int (m_pin S 293 p n 0 (-1))] (am_hh X S L) _
    refine ax_s (pc' := 34) (ls' := [some (.ref 285), some (.int p), some (.int q), some (.int (m_pl (S 285 8) p (S 293 1))), some (.int (m_pin S 293 p n 0 (-1)))]) (st' := []) rfl rfl rfl rfl ?_
    refine ax_s (pc' := 35) (st' := [.int q]) rfl rfl rfl rfl ?_
    by_cases c2 : q = 0
    · refine ax_s (pc' := 64) (ls' := [some (.ref 285), some (.int p), some (.int q), some (.int (m_pl (S 285 8) p (S 293 1))), some (.int (m_pin S 293 p n 0 (-1)))]) (st' := []) (h1 := (am_hh X S L)) rfl (by rw [c2]; rfl) rfl rfl ?_
      refine ax_s (pc' := 65) (st' := [.int (m_pl (S 285 8) p (S 293 1))]) rfl rfl rfl rfl ?_
      refine ax_r rfl rfl rfl ?_
      unfold e_m_gondola at hQ
      rw [if_pos c1, if_pos c2] at hQ
      exact hQ
    by_cases c3 : q = 1
    · refine ax_s (pc' := 66) (ls' := [some (.ref 285), some (.int p), some (.int q), some (.int (m_pl (S 285 8) p (S 293 1))), some (.int (m_pin S 293 p n 0 (-1)))]) (st' := []) (h1 := (am_hh X S L)) rfl (by rw [c3]; rfl) rfl rfl ?_
      refine ax_s (pc' := 67) (st' := [.ref 285]) rfl rfl rfl rfl ?_
      refine ax_s (pc' := 68) (st' := [.int (m_pl (S 285 8) p (S 293 1)), .ref 285]) rfl rfl rfl rfl ?_
      refine ax_call (vs := [.ref 285, .int (m_pl (S 285 8) p (S 293 1))]) (rr := []) rfl rfl rfl ?_
      refine mt_pull  ?_
      show am_ex (d + 6) 192 71 [some (.ref 285), some (.int p), some (.int q), some (.int (m_pl (S 285 8) p (S 293 1))), some (.int (m_pin S 293 p n 0 (-1)))] [.int (m_pull (S 285 8) (m_pl (S 285 8) p (S 293 1)))] (am_hh X S L) _
      refine ax_r rfl rfl rfl ?_
      unfold e_m_gondola at hQ
      rw [if_pos c1, if_neg c2, if_pos c3] at hQ
      exact hQ
    by_cases c4 : q = 2
    · refine ax_s (pc' := 72) (ls' := [some (.ref 285), some (.int p), some (.int q), some (.int (m_pl (S 285 8) p (S 293 1))), some (.int (m_pin S 293 p n 0 (-1)))]) (st' := []) (h1 := (am_hh X S L)) rfl (by rw [c4]; rfl) rfl rfl ?_
      refine ax_s (pc' := 73) (st' := [.ref 285]) rfl rfl rfl rfl ?_
      refine ax_get rfl (hh_285 _ _ _) rfl rfl rfl ?_
      show am_ex (d + 6) 192 76 [some (.ref 285), some (.int p), some (.int q), some (.int (m_pl (S 285 8) p (S 293 1))), some (.int (m_pin S 293 p n 0 (-1)))] [.ref 293] (am_hh X S L) _
      refine ax_s (pc' := 77) (st' := [.int 3, .ref 293]) rfl rfl rfl rfl ?_
      refine ax_s (pc' := 78) (st' := [.int p, .int 3, .ref 293]) rfl rfl rfl rfl ?_
      refine ax_s (pc' := 79) (st' := [.int (3 + p), .ref 293]) rfl rfl rfl rfl ?_
      refine ax_ald' (v := (S 293 (3 + p).toNatClampNeg)) rfl (hh_293 _ _ _) rfl (x1 c1 c2 c3 c4) rfl ?_
      refine ax_r rfl rfl rfl ?_
      unfold e_m_gondola at hQ
      rw [if_pos c1, if_neg c2, if_neg c3, if_pos c4] at hQ
      exact hQ
    by_cases c5 : q = 3
    · refine ax_s (pc' := 81) (ls' := [some (.ref 285), some (.int p), some (.int q), some (.int (m_pl (S 285 8) p (S 293 1))), some (.int (m_pin S 293 p n 0 (-1)))]) (st' := []) (h1 := (am_hh X S L)) rfl (by rw [c5]; rfl) rfl rfl ?_
      refine ax_s (pc' := 83) (st' := [.int (m_pin S 293 p n 0 (-1))]) rfl rfl rfl rfl ?_
      refine ax_if_ge rfl (fun c6 => ?_) (fun c6 => ?_)
      · refine ax_s (pc' := 93) (st' := [.int (m_pin S 293 p n 0 (-1))]) rfl rfl rfl rfl ?_
        refine ax_r rfl rfl rfl ?_
        unfold e_m_gondola at hQ
        rw [if_pos c1, if_neg c2, if_neg c3, if_neg c4, if_pos c5, if_pos c6] at hQ
        exact hQ
      · refine ax_s (pc' := 88) (st' := [.int (-1000000)]) rfl rfl rfl rfl ?_
        refine ax_s (pc' := 93) (st' := [.int (-1000000)]) rfl rfl rfl rfl ?_
        refine ax_r rfl rfl rfl ?_
        unfold e_m_gondola at hQ
        rw [if_pos c1, if_neg c2, if_neg c3, if_neg c4, if_pos c5, if_neg c6] at hQ
        exact hQ
    refine ax_s (pc' := 94) (ls' := [some (.ref 285), some (.int p), some (.int q), some (.int (m_pl (S 285 8) p (S 293 1))), some (.int (m_pin S 293 p n 0 (-1)))]) (st' := []) (h1 := (am_hh X S L)) rfl (am_tsw [0, 1, 2, 3] (by decide) (by decide) (by intro q hq; simp only [List.mem_cons, List.not_mem_nil, or_false] at hq; rcases hq with rfl | rfl | rfl | rfl <;> first | exact lv_neT c2 (by decide) | exact lv_neT c3 (by decide) | exact lv_neT c4 (by decide) | exact lv_neT c5 (by decide)) (by decide)) rfl rfl ?_
    refine ax_s (pc' := 96) (st' := [.int (-1000001)]) rfl rfl rfl rfl ?_
    refine ax_r rfl rfl rfl ?_
    unfold e_m_gondola at hQ
    rw [if_pos c1, if_neg c2, if_neg c3, if_neg c4, if_neg c5] at hQ
    exact hQ
  · refine ax_s (pc' := 10) (st' := [.int (-1000001)]) rfl rfl rfl rfl ?_
    refine ax_r rfl rfl rfl ?_
    unfold e_m_gondola at hQ
    rw [if_neg c1] at hQ
    exact hQ
def e_k_stand (S : Nat → Nat → Int32) (p : Int32) (g n : Nat) : Int32 := (if (S 20 4) ≤ 0 then (-1000002) else (if p = 0 then (S 20 0) else (if p = 1 then (S 20 2) else (if p = 2 then (S 20 1) else (if p = 3 then (w_lean (am_sub S 20) g n (S 20 2)) else (if p = 4 then (if (w_bal (am_sub S 20) (w_lean (am_sub S 20) g n (S 20 2))) = true then 1 else 0) else (if p = 5 then (w_wh (am_sub S 20) 0 n 0 0) else (if p = 6 then (w_wh (am_sub S 20) 1 n 0 0) else (if p = 7 then (w_wh (am_sub S 20) 2 n 0 0) else (if p = 8 then (w_wh (am_sub S 20) 3 n 0 0) else (-1000001)))))))))))
theorem w_k_stand {d : Nat} {X : Nat × (Nat → Int32)} {S : Nat → Nat → Int32} {L : Nat → Int64} {p : Int32} {g n : Nat} {Q : Option Value → am_H → Prop}  (f1 : ¬ (S 20 4) ≤ 0 → ¬ p = 0 → ¬ p = 1 → ¬ p = 2 → p = 3 → wF (am_sub S 20) g n) (f2 : ¬ (S 20 4) ≤ 0 → ¬ p = 0 → ¬ p = 1 → ¬ p = 2 → ¬ p = 3 → p = 4 → wF (am_sub S 20) g n) (f3 : ¬ (S 20 4) ≤ 0 → ¬ p = 0 → ¬ p = 1 → ¬ p = 2 → ¬ p = 3 → ¬ p = 4 → p = 5 → wF (am_sub S 20) g n) (f4 : ¬ (S 20 4) ≤ 0 → ¬ p = 0 → ¬ p = 1 → ¬ p = 2 → ¬ p = 3 → ¬ p = 4 → ¬ p = 5 → p = 6 → wF (am_sub S 20) g n) (f5 : ¬ (S 20 4) ≤ 0 → ¬ p = 0 → ¬ p = 1 → ¬ p = 2 → ¬ p = 3 → ¬ p = 4 → ¬ p = 5 → ¬ p = 6 → p = 7 → wF (am_sub S 20) g n) (f6 : ¬ (S 20 4) ≤ 0 → ¬ p = 0 → ¬ p = 1 → ¬ p = 2 → ¬ p = 3 → ¬ p = 4 → ¬ p = 5 → ¬ p = 6 → ¬ p = 7 → p = 8 → wF (am_sub S 20) g n) (hQ : Q (some (.int (e_k_stand S p g n))) (am_hh X S L)) : am_mt (d + 6) 79 [.ref 5, .int p] (am_hh X S L) Q := by
  refine ax_in (ls := [some (.ref 5), some (.int p)]) rfl ?_
  refine ax_s (pc' := 1) (st' := [.ref 5]) rfl rfl rfl rfl ?_
  refine ax_get rfl (hh_5 _ _ _) rfl rfl rfl ?_
  show am_ex (d + 6) 79 4 [some (.ref 5), some (.int p)] [.ref 20] (am_hh X S L) _
  refine ax_call (vs := [.ref 20]) (rr := []) rfl rfl rfl ?_
  refine kw (am_hh_sub isW20 X S L) (am_hh_sub isW20 X S L).symm (fun _ => ct_stands (am_isW_k isW20 X S L)) ?_
  show am_ex (d + 6) 79 7 [some (.ref 5), some (.int p)] [.int (bI (decide (¬ (S 20 4) ≤ 0)))] (am_hh X S L) _
  refine ax_qT rfl (fun c1 => ?_) (fun c1 => ?_)
  · refine ax_s (pc' := 14) (st' := [.int p]) rfl rfl rfl rfl ?_
    by_cases c2 : p = 0
    · refine ax_s (pc' := 64) (ls' := [some (.ref 5), some (.int p)]) (st' := []) (h1 := (am_hh X S L)) rfl (by rw [c2]; rfl) rfl rfl ?_
      refine ax_s (pc' := 65) (st' := [.ref 5]) rfl rfl rfl rfl ?_
      refine ax_get rfl (hh_5 _ _ _) rfl rfl rfl ?_
      show am_ex (d + 6) 79 68 [some (.ref 5), some (.int p)] [.ref 20] (am_hh X S L) _
      refine ax_get rfl (hh_20 _ _ _) rfl rfl rfl ?_
      show am_ex (d + 6) 79 71 [some (.ref 5), some (.int p)] [.int (S 20 0)] (am_hh X S L) _
      refine ax_r rfl rfl rfl ?_
      unfold e_k_stand at hQ
      rw [if_neg c1, if_pos c2] at hQ
      exact hQ
    by_cases c3 : p = 1
    · refine ax_s (pc' := 72) (ls' := [some (.ref 5), some (.int p)]) (st' := []) (h1 := (am_hh X S L)) rfl (by rw [c3]; rfl) rfl rfl ?_
      refine ax_s (pc' := 73) (st' := [.ref 5]) rfl rfl rfl rfl ?_
      refine ax_get rfl (hh_5 _ _ _) rfl rfl rfl ?_
      show am_ex (d + 6) 79 76 [some (.ref 5), some (.int p)] [.ref 20] (am_hh X S L) _
      refine ax_get rfl (hh_20 _ _ _) rfl rfl rfl ?_
      show am_ex (d + 6) 79 79 [some (.ref 5), some (.int p)] [.int (S 20 2)] (am_hh X S L) _
      refine ax_r rfl rfl rfl ?_
      unfold e_k_stand at hQ
      rw [if_neg c1, if_neg c2, if_pos c3] at hQ
      exact hQ
    by_cases c4 : p = 2
    · refine ax_s (pc' := 80) (ls' := [some (.ref 5), some (.int p)]) (st' := []) (h1 := (am_hh X S L)) rfl (by rw [c4]; rfl) rfl rfl ?_
      refine ax_s (pc' := 81) (st' := [.ref 5]) rfl rfl rfl rfl ?_
      refine ax_get rfl (hh_5 _ _ _) rfl rfl rfl ?_
      show am_ex (d + 6) 79 84 [some (.ref 5), some (.int p)] [.ref 20] (am_hh X S L) _
      refine ax_get rfl (hh_20 _ _ _) rfl rfl rfl ?_
      show am_ex (d + 6) 79 87 [some (.ref 5), some (.int p)] [.int (S 20 1)] (am_hh X S L) _
      refine ax_r rfl rfl rfl ?_
      unfold e_k_stand at hQ
      rw [if_neg c1, if_neg c2, if_neg c3, if_pos c4] at hQ
      exact hQ
    by_cases c5 : p = 3
    · refine ax_s (pc' := 88) (ls' := [some (.ref 5), some (.int p)]) (st' := []) (h1 := (am_hh X S L)) rfl (by rw [c5]; rfl) rfl rfl ?_
      refine ax_s (pc' := 89) (st' := [.ref 5]) rfl rfl rfl rfl ?_
      refine ax_get rfl (hh_5 _ _ _) rfl rfl rfl ?_
      show am_ex (d + 6) 79 92 [some (.ref 5), some (.int p)] [.ref 20] (am_hh X S L) _
      refine ax_s (pc' := 93) (st' := [.ref 5, .ref 20]) rfl rfl rfl rfl ?_
      refine ax_get rfl (hh_5 _ _ _) rfl rfl rfl ?_
      show am_ex (d + 6) 79 96 [some (.ref 5), some (.int p)] [.ref 20, .ref 20] (am_hh X S L) _
      refine ax_get rfl (hh_20 _ _ _) rfl rfl rfl ?_
      show am_ex (d + 6) 79 99 [some (.ref 5), some (.int p)] [.int (S 20 2), .ref 20] (am_hh X S L) _
      refine ax_call (vs := [.ref 20, .int (S 20 2)]) (rr := []) rfl rfl rfl ?_
      refine kw (am_hh_sub isW20 X S L) (am_hh_sub isW20 X S L).symm (fun _ => ct_leanWith (am_isW_k isW20 X S L) (f1 c1 c2 c3 c4 c5).1 (f1 c1 c2 c3 c4 c5).2.1 (f1 c1 c2 c3 c4 c5).2.2.1 (f1 c1 c2 c3 c4 c5).2.2.2) ?_
      show am_ex (d + 6) 79 102 [some (.ref 5), some (.int p)] [.int (w_lean (am_sub S 20) g n (S 20 2))] (am_hh X S L) _
      refine ax_r rfl rfl rfl ?_
      unfold e_k_stand at hQ
      rw [if_neg c1, if_neg c2, if_neg c3, if_neg c4, if_pos c5] at hQ
      exact hQ
    by_cases c6 : p = 4
    · refine ax_s (pc' := 103) (ls' := [some (.ref 5), some (.int p)]) (st' := []) (h1 := (am_hh X S L)) rfl (by rw [c6]; rfl) rfl rfl ?_
      refine ax_s (pc' := 104) (st' := [.ref 5]) rfl rfl rfl rfl ?_
      refine ax_get rfl (hh_5 _ _ _) rfl rfl rfl ?_
      show am_ex (d + 6) 79 107 [some (.ref 5), some (.int p)] [.ref 20] (am_hh X S L) _
      refine ax_s (pc' := 108) (st' := [.ref 5, .ref 20]) rfl rfl rfl rfl ?_
      refine ax_get rfl (hh_5 _ _ _) rfl rfl rfl ?_
      show am_ex (d + 6) 79 111 [some (.ref 5), some (.int p)] [.ref 20, .ref 20] (am_hh X S L) _
      refine ax_s (pc' := 112) (st' := [.ref 5, .ref 20, .ref 20]) rfl rfl rfl rfl ?_
      refine ax_get rfl (hh_5 _ _ _) rfl rfl rfl ?_
      show am_ex (d + 6) 79 115 [some (.ref 5), some (.int p)] [.ref 20, .ref 20, .ref 20] (am_hh X S L) _
      refine ax_get rfl (hh_20 _ _ _) rfl rfl rfl ?_
      show am_ex (d + 6) 79 118 [some (.ref 5), some (.int p)] [.int (S 20 2), .ref 20, .ref 20] (am_hh X S L) _
      refine ax_call (vs := [.ref 20, .int (S 20 2)]) (rr := [.ref 20]) rfl rfl rfl ?_
      refine kw (am_hh_sub isW20 X S L) (am_hh_sub isW20 X S L).symm (fun _ => ct_leanWith (am_isW_k isW20 X S L) (f2 c1 c2 c3 c4 c5 c6).1 (f2 c1 c2 c3 c4 c5 c6).2.1 (f2 c1 c2 c3 c4 c5 c6).2.2.1 (f2 c1 c2 c3 c4 c5 c6).2.2.2) ?_
      show am_ex (d + 6) 79 121 [some (.ref 5), some (.int p)] [.int (w_lean (am_sub S 20) g n (S 20 2)), .ref 20] (am_hh X S L) _
      refine ax_call (vs := [.ref 20, .int (w_lean (am_sub S 20) g n (S 20 2))]) (rr := []) rfl rfl rfl ?_
      refine kw (am_hh_sub isW20 X S L) (am_hh_sub isW20 X S L).symm (fun _ => ct_isInBalanceBy (am_isW_k isW20 X S L)) ?_
      show am_ex (d + 6) 79 124 [some (.ref 5), some (.int p)] [.int (bI (w_bal (am_sub S 20) (w_lean (am_sub S 20) g n (S 20 2))))] (am_hh X S L) _
      refine ax_bF rfl (fun c7 => ?_) (fun c7 => ?_)
      · refine ax_s (pc' := 132) (st' := [.int 0]) rfl rfl rfl rfl ?_
        refine ax_r rfl rfl rfl ?_
        unfold e_k_stand at hQ
        rw [if_neg c1, if_neg c2, if_neg c3, if_neg c4, if_neg c5, if_pos c6, if_neg (ne_true_of_eq_false c7)] at hQ
        exact hQ
      · refine ax_s (pc' := 128) (st' := [.int 1]) rfl rfl rfl rfl ?_
        refine ax_s (pc' := 132) (st' := [.int 1]) rfl rfl rfl rfl ?_
        refine ax_r rfl rfl rfl ?_
        unfold e_k_stand at hQ
        rw [if_neg c1, if_neg c2, if_neg c3, if_neg c4, if_neg c5, if_pos c6, if_pos c7] at hQ
        exact hQ
    by_cases c8 : p = 5
    · refine ax_s (pc' := 133) (ls' := [some (.ref 5), some (.int p)]) (st' := []) (h1 := (am_hh X S L)) rfl (by rw [c8]; rfl) rfl rfl ?_
      refine ax_s (pc' := 134) (st' := [.ref 5]) rfl rfl rfl rfl ?_
      refine ax_get rfl (hh_5 _ _ _) rfl rfl rfl ?_
      show am_ex (d + 6) 79 137 [some (.ref 5), some (.int p)] [.ref 20] (am_hh X S L) _
      refine ax_s (pc' := 138) (st' := [.int 0, .ref 20]) rfl rfl rfl rfl ?_
      refine ax_call (vs := [.ref 20, .int 0]) (rr := []) rfl rfl rfl ?_
      refine kw (am_hh_sub isW20 X S L) (am_hh_sub isW20 X S L).symm (fun _ => ct_whichAre (am_isW_k isW20 X S L) (f3 c1 c2 c3 c4 c5 c6 c8).1 (f3 c1 c2 c3 c4 c5 c6 c8).2.1) ?_
      show am_ex (d + 6) 79 141 [some (.ref 5), some (.int p)] [.int (w_wh (am_sub S 20) 0 n 0 0)] (am_hh X S L) _
      refine ax_r rfl rfl rfl ?_
      unfold e_k_stand at hQ
      rw [if_neg c1, if_neg c2, if_neg c3, if_neg c4, if_neg c5, if_neg c6, if_pos c8] at hQ
      exact hQ
    by_cases c9 : p = 6
    · refine ax_s (pc' := 142) (ls' := [some (.ref 5), some (.int p)]) (st' := []) (h1 := (am_hh X S L)) rfl (by rw [c9]; rfl) rfl rfl ?_
      refine ax_s (pc' := 143) (st' := [.ref 5]) rfl rfl rfl rfl ?_
      refine ax_get rfl (hh_5 _ _ _) rfl rfl rfl ?_
      show am_ex (d + 6) 79 146 [some (.ref 5), some (.int p)] [.ref 20] (am_hh X S L) _
      refine ax_s (pc' := 147) (st' := [.int 1, .ref 20]) rfl rfl rfl rfl ?_
      refine ax_call (vs := [.ref 20, .int 1]) (rr := []) rfl rfl rfl ?_
      refine kw (am_hh_sub isW20 X S L) (am_hh_sub isW20 X S L).symm (fun _ => ct_whichAre (am_isW_k isW20 X S L) (f4 c1 c2 c3 c4 c5 c6 c8 c9).1 (f4 c1 c2 c3 c4 c5 c6 c8 c9).2.1) ?_
      show am_ex (d + 6) 79 150 [some (.ref 5), some (.int p)] [.int (w_wh (am_sub S 20) 1 n 0 0)] (am_hh X S L) _
      refine ax_r rfl rfl rfl ?_
      unfold e_k_stand at hQ
      rw [if_neg c1, if_neg c2, if_neg c3, if_neg c4, if_neg c5, if_neg c6, if_neg c8, if_pos c9] at hQ
      exact hQ
    by_cases c10 : p = 7
    · refine ax_s (pc' := 151) (ls' := [some (.ref 5), some (.int p)]) (st' := []) (h1 := (am_hh X S L)) rfl (by rw [c10]; rfl) rfl rfl ?_
      refine ax_s (pc' := 152) (st' := [.ref 5]) rfl rfl rfl rfl ?_
      refine ax_get rfl (hh_5 _ _ _) rfl rfl rfl ?_
      show am_ex (d + 6) 79 155 [some (.ref 5), some (.int p)] [.ref 20] (am_hh X S L) _
      refine ax_s (pc' := 156) (st' := [.int 2, .ref 20]) rfl rfl rfl rfl ?_
      refine ax_call (vs := [.ref 20, .int 2]) (rr := []) rfl rfl rfl ?_
      refine kw (am_hh_sub isW20 X S L) (am_hh_sub isW20 X S L).symm (fun _ => ct_whichAre (am_isW_k isW20 X S L) (f5 c1 c2 c3 c4 c5 c6 c8 c9 c10).1 (f5 c1 c2 c3 c4 c5 c6 c8 c9 c10).2.1) ?_
      show am_ex (d + 6) 79 159 [some (.ref 5), some (.int p)] [.int (w_wh (am_sub S 20) 2 n 0 0)] (am_hh X S L) _
      refine ax_r rfl rfl rfl ?_
      unfold e_k_stand at hQ
      rw [if_neg c1, if_neg c2, if_neg c3, if_neg c4, if_neg c5, if_neg c6, if_neg c8, if_neg c9, if_pos c10] at hQ
      exact hQ
    by_cases c11 : p = 8
    · refine ax_s (pc' := 160) (ls' := [some (.ref 5), some (.int p)]) (st' := []) (h1 := (am_hh X S L)) rfl (by rw [c11]; rfl) rfl rfl ?_
      refine ax_s (pc' := 161) (st' := [.ref 5]) rfl rfl rfl rfl ?_
      refine ax_get rfl (hh_5 _ _ _) rfl rfl rfl ?_
      show am_ex (d + 6) 79 164 [some (.ref 5), some (.int p)] [.ref 20] (am_hh X S L) _
      refine ax_s (pc' := 165) (st' := [.int 3, .ref 20]) rfl rfl rfl rfl ?_
      refine ax_call (vs := [.ref 20, .int 3]) (rr := []) rfl rfl rfl ?_
      refine kw (am_hh_sub isW20 X S L) (am_hh_sub isW20 X S L).symm (fun _ => ct_whichAre (am_isW_k isW20 X S L) (f6 c1 c2 c3 c4 c5 c6 c8 c9 c10 c11).1 (f6 c1 c2 c3 c4 c5 c6 c8 c9 c10 c11).2.1) ?_
      show am_ex (d + 6) 79 168 [some (.ref 5), some (.int p)] [.int (w_wh (am_sub S 20) 3 n 0 0)] (am_hh X S L) _
      refine ax_r rfl rfl rfl ?_
      unfold e_k_stand at hQ
      rw [if_neg c1, if_neg c2, if_neg c3, if_neg c4, if_neg c5, if_neg c6, if_neg c8, if_neg c9, if_neg c10, if_pos c11] at hQ
      exact hQ
    refine ax_s (pc' := 169) (ls' := [some (.ref 5), some (.int p)]) (st' := []) (h1 := (am_hh X S L)) rfl (am_tsw [0, 1, 2, 3, 4, 5, 6, 7, 8] (by decide) (by decide) (by intro q hq; simp only [List.mem_cons, List.not_mem_nil, or_false] at hq; rcases hq with rfl | rfl | rfl | rfl | rfl | rfl | rfl | rfl | rfl <;> first | exact lv_neT c2 (by decide) | exact lv_neT c3 (by decide) | exact lv_neT c4 (by decide) | exact lv_neT c5 (by decide) | exact lv_neT c6 (by decide) | exact lv_neT c8 (by decide) | exact lv_neT c9 (by decide) | exact lv_neT c10 (by decide) | exact lv_neT c11 (by decide)) (by decide)) rfl rfl ?_
    refine ax_s (pc' := 171) (st' := [.int (-1000001)]) rfl rfl rfl rfl ?_
    refine ax_r rfl rfl rfl ?_
    unfold e_k_stand at hQ
    rw [if_neg c1, if_neg c2, if_neg c3, if_neg c4, if_neg c5, if_neg c6, if_neg c8, if_neg c9, if_neg c10, if_neg c11] at hQ
    exact hQ
  · refine ax_s (pc' := 12) (st' := [.int (-1000002)]) rfl rfl rfl rfl ?_
    refine ax_r rfl rfl rfl ?_
    unfold e_k_stand at hQ
    rw [if_pos c1] at hQ
    exact hQ
def e_m_stand (S : Nat → Nat → Int32) (p : Int32) (g n : Nat) : Int32 := (if (S 285 8) = 0 then (-1000002) else (if p = 0 then (S 285 8) else (if p = 1 then (S 293 1) else (if p = 2 then (S 293 2) else (if p = 3 then (m_lean S 293 g n (S 293 1)) else (if p = 4 then (if (m_bal S 293 (m_lean S 293 g n (S 293 1))) = true then 1 else 0) else (if ¬ p < 5 ∧ ¬ 8 < p then (m_th S 293 (p - 5) n 0 0) else (-1000001))))))))
theorem w_m_stand {d : Nat} {X : Nat × (Nat → Int32)} {S : Nat → Nat → Int32} {L : Nat → Int64} {p : Int32} {g n : Nat} {Q : Option Value → am_H → Prop}  (f1 : ¬ ((S 285 8) = 0) → mF S g n) (hQ : Q (some (.int (e_m_stand S p g n))) (am_hh X S L)) : am_mt (d + 6) 193 [.ref 285, .int p] (am_hh X S L) Q := by
  refine ax_in (ls := [some (.ref 285), some (.int p), none]) rfl ?_
  refine ax_s (pc' := 1) (st' := [.ref 285]) rfl rfl rfl rfl ?_
  refine ax_call (vs := [.ref 285]) (rr := []) rfl rfl rfl ?_
  refine mt_isNone  ?_
  show am_ex (d + 6) 193 4 [some (.ref 285), some (.int p), none] [.int (bI (decide ((S 285 8) = 0)))] (am_hh X S L) _
  refine ax_pF rfl (fun c1 => ?_) (fun c1 => ?_)
  · refine ax_s (pc' := 11) (st' := [.ref 285]) rfl rfl rfl rfl ?_
    refine ax_s (pc' := 12) (st' := [.ref 285, .ref 285]) rfl rfl rfl rfl ?_
    refine ax_get rfl (hh_285 _ _ _) rfl rfl rfl ?_
    show am_ex (d + 6) 193 15 [some (.ref 285), some (.int p), none] [.ref 293, .ref 285] (am_hh X S L) _
    refine ax_s (pc' := 16) (st' := [.ref 285, .ref 293, .ref 285]) rfl rfl rfl rfl ?_
    refine ax_get rfl (hh_285 _ _ _) rfl rfl rfl ?_
    show am_ex (d + 6) 193 19 [some (.ref 285), some (.int p), none] [.ref 293, .ref 293, .ref 285] (am_hh X S L) _
    refine ax_s (pc' := 20) (st' := [.int 1, .ref 293, .ref 293, .ref 285]) rfl rfl rfl rfl ?_
    refine ax_ald (j := 1) (v := (S 293 1)) rfl (hh_293 _ _ _) rfl rfl (by decide) (by decide) rfl ?_
    refine ax_call (vs := [.ref 285, .ref 293, .int (S 293 1)]) (rr := []) rfl rfl rfl ?_
    refine mt_leanBy (f1 c1).1.1 (f1 c1).1.2 (f1 c1).2.1.1 (f1 c1).2.1.2.1 (f1 c1).2.1.2.2 (Or.inl rfl) ?_
    show am_ex (d + 6) 193 24 [some (.ref 285), some (.int p), none] [.int (m_lean S 293 g n (S 293 1))] (am_hh X S L) _
    refine ax_s (pc' := 25) (ls' := [some (.ref 285), some (.int p), some (.int (m_lean S 293 g n (S 293 1)))]) (st' := []) rfl rfl rfl rfl ?_
    refine ax_s (pc' := 26) (st' := [.int p]) rfl rfl rfl rfl ?_
    by_cases c2 : p = 0
    · refine ax_s (pc' := 60) (ls' := [some (.ref 285), some (.int p), some (.int (m_lean S 293 g n (S 293 1)))]) (st' := []) (h1 := (am_hh X S L)) rfl (by rw [c2]; rfl) rfl rfl ?_
      refine ax_s (pc' := 61) (st' := [.ref 285]) rfl rfl rfl rfl ?_
      refine ax_get rfl (hh_285 _ _ _) rfl rfl rfl ?_
      show am_ex (d + 6) 193 64 [some (.ref 285), some (.int p), some (.int (m_lean S 293 g n (S 293 1)))] [.int (S 285 8)] (am_hh X S L) _
      refine ax_r rfl rfl rfl ?_
      unfold e_m_stand at hQ
      rw [if_neg c1, if_pos c2] at hQ
      exact hQ
    by_cases c3 : p = 1
    · refine ax_s (pc' := 65) (ls' := [some (.ref 285), some (.int p), some (.int (m_lean S 293 g n (S 293 1)))]) (st' := []) (h1 := (am_hh X S L)) rfl (by rw [c3]; rfl) rfl rfl ?_
      refine ax_s (pc' := 66) (st' := [.ref 285]) rfl rfl rfl rfl ?_
      refine ax_get rfl (hh_285 _ _ _) rfl rfl rfl ?_
      show am_ex (d + 6) 193 69 [some (.ref 285), some (.int p), some (.int (m_lean S 293 g n (S 293 1)))] [.ref 293] (am_hh X S L) _
      refine ax_s (pc' := 70) (st' := [.int 1, .ref 293]) rfl rfl rfl rfl ?_
      refine ax_ald (j := 1) (v := (S 293 1)) rfl (hh_293 _ _ _) rfl rfl (by decide) (by decide) rfl ?_
      refine ax_r rfl rfl rfl ?_
      unfold e_m_stand at hQ
      rw [if_neg c1, if_neg c2, if_pos c3] at hQ
      exact hQ
    by_cases c4 : p = 2
    · refine ax_s (pc' := 72) (ls' := [some (.ref 285), some (.int p), some (.int (m_lean S 293 g n (S 293 1)))]) (st' := []) (h1 := (am_hh X S L)) rfl (by rw [c4]; rfl) rfl rfl ?_
      refine ax_s (pc' := 73) (st' := [.ref 285]) rfl rfl rfl rfl ?_
      refine ax_get rfl (hh_285 _ _ _) rfl rfl rfl ?_
      show am_ex (d + 6) 193 76 [some (.ref 285), some (.int p), some (.int (m_lean S 293 g n (S 293 1)))] [.ref 293] (am_hh X S L) _
      refine ax_s (pc' := 77) (st' := [.int 2, .ref 293]) rfl rfl rfl rfl ?_
      refine ax_ald (j := 2) (v := (S 293 2)) rfl (hh_293 _ _ _) rfl rfl (by decide) (by decide) rfl ?_
      refine ax_r rfl rfl rfl ?_
      unfold e_m_stand at hQ
      rw [if_neg c1, if_neg c2, if_neg c3, if_pos c4] at hQ
      exact hQ
    by_cases c5 : p = 3
    · refine ax_s (pc' := 79) (ls' := [some (.ref 285), some (.int p), some (.int (m_lean S 293 g n (S 293 1)))]) (st' := []) (h1 := (am_hh X S L)) rfl (by rw [c5]; rfl) rfl rfl ?_
      refine ax_s (pc' := 80) (st' := [.int (m_lean S 293 g n (S 293 1))]) rfl rfl rfl rfl ?_
      refine ax_r rfl rfl rfl ?_
      unfold e_m_stand at hQ
      rw [if_neg c1, if_neg c2, if_neg c3, if_neg c4, if_pos c5] at hQ
      exact hQ
    by_cases c6 : p = 4
    · refine ax_s (pc' := 81) (ls' := [some (.ref 285), some (.int p), some (.int (m_lean S 293 g n (S 293 1)))]) (st' := []) (h1 := (am_hh X S L)) rfl (by rw [c6]; rfl) rfl rfl ?_
      refine ax_s (pc' := 82) (st' := [.ref 285]) rfl rfl rfl rfl ?_
      refine ax_s (pc' := 83) (st' := [.ref 285, .ref 285]) rfl rfl rfl rfl ?_
      refine ax_get rfl (hh_285 _ _ _) rfl rfl rfl ?_
      show am_ex (d + 6) 193 86 [some (.ref 285), some (.int p), some (.int (m_lean S 293 g n (S 293 1)))] [.ref 293, .ref 285] (am_hh X S L) _
      refine ax_s (pc' := 87) (st' := [.int (m_lean S 293 g n (S 293 1)), .ref 293, .ref 285]) rfl rfl rfl rfl ?_
      refine ax_call (vs := [.ref 285, .ref 293, .int (m_lean S 293 g n (S 293 1))]) (rr := []) rfl rfl rfl ?_
      refine mt_isBalance (Or.inl rfl) ?_
      show am_ex (d + 6) 193 90 [some (.ref 285), some (.int p), some (.int (m_lean S 293 g n (S 293 1)))] [.int (bI (m_bal S 293 (m_lean S 293 g n (S 293 1))))] (am_hh X S L) _
      refine ax_bF rfl (fun c7 => ?_) (fun c7 => ?_)
      · refine ax_s (pc' := 98) (st' := [.int 0]) rfl rfl rfl rfl ?_
        refine ax_r rfl rfl rfl ?_
        unfold e_m_stand at hQ
        rw [if_neg c1, if_neg c2, if_neg c3, if_neg c4, if_neg c5, if_pos c6, if_neg (ne_true_of_eq_false c7)] at hQ
        exact hQ
      · refine ax_s (pc' := 94) (st' := [.int 1]) rfl rfl rfl rfl ?_
        refine ax_s (pc' := 98) (st' := [.int 1]) rfl rfl rfl rfl ?_
        refine ax_r rfl rfl rfl ?_
        unfold e_m_stand at hQ
        rw [if_neg c1, if_neg c2, if_neg c3, if_neg c4, if_neg c5, if_pos c6, if_pos c7] at hQ
        exact hQ
    refine ax_s (pc' := 99) (ls' := [some (.ref 285), some (.int p), some (.int (m_lean S 293 g n (S 293 1)))]) (st' := []) (h1 := (am_hh X S L)) rfl (am_tsw [0, 1, 2, 3, 4] (by decide) (by decide) (by intro q hq; simp only [List.mem_cons, List.not_mem_nil, or_false] at hq; rcases hq with rfl | rfl | rfl | rfl | rfl <;> first | exact lv_neT c2 (by decide) | exact lv_neT c3 (by decide) | exact lv_neT c4 (by decide) | exact lv_neT c5 (by decide) | exact lv_neT c6 (by decide)) (by decide)) rfl rfl ?_
    refine ax_s (pc' := 100) (st' := [.int p]) rfl rfl rfl rfl ?_
    refine ax_s (pc' := 101) (st' := [.int 5, .int p]) rfl rfl rfl rfl ?_
    refine ax_s (pc' := 103) (st' := [.int 8, .int 5, .int p]) rfl rfl rfl rfl ?_
    refine ax_call (vs := [.int p, .int 5, .int 8]) (rr := []) rfl rfl rfl ?_
    refine mt_in ?_
    show am_ex (d + 6) 193 106 [some (.ref 285), some (.int p), some (.int (m_lean S 293 g n (S 293 1)))] [.int (bI (decide (¬ p < 5 ∧ ¬ 8 < p)))] (am_hh X S L) _
    refine ax_pF rfl (fun c8 => ?_) (fun c8 => ?_)
    · refine ax_s (pc' := 125) (st' := [.int (-1000001)]) rfl rfl rfl rfl ?_
      refine ax_r rfl rfl rfl ?_
      unfold e_m_stand at hQ
      rw [if_neg c1, if_neg c2, if_neg c3, if_neg c4, if_neg c5, if_neg c6, if_neg c8] at hQ
      exact hQ
    · refine ax_s (pc' := 110) (st' := [.ref 285]) rfl rfl rfl rfl ?_
      refine ax_s (pc' := 111) (st' := [.ref 285, .ref 285]) rfl rfl rfl rfl ?_
      refine ax_get rfl (hh_285 _ _ _) rfl rfl rfl ?_
      show am_ex (d + 6) 193 114 [some (.ref 285), some (.int p), some (.int (m_lean S 293 g n (S 293 1)))] [.ref 293, .ref 285] (am_hh X S L) _
      refine ax_s (pc' := 115) (st' := [.int p, .ref 293, .ref 285]) rfl rfl rfl rfl ?_
      refine ax_s (pc' := 116) (st' := [.int 5, .int p, .ref 293, .ref 285]) rfl rfl rfl rfl ?_
      refine ax_s (pc' := 117) (st' := [.int (p - 5), .ref 293, .ref 285]) rfl rfl rfl rfl ?_
      refine ax_call (vs := [.ref 285, .ref 293, .int (p - 5)]) (rr := []) rfl rfl rfl ?_
      refine mt_those (f1 c1).1.1 (f1 c1).1.2 (Or.inl rfl) ?_
      show am_ex (d + 6) 193 120 [some (.ref 285), some (.int p), some (.int (m_lean S 293 g n (S 293 1)))] [.int (m_th S 293 (p - 5) n 0 0)] (am_hh X S L) _
      refine ax_s (pc' := 125) (st' := [.int (m_th S 293 (p - 5) n 0 0)]) rfl rfl rfl rfl ?_
      refine ax_r rfl rfl rfl ?_
      unfold e_m_stand at hQ
      rw [if_neg c1, if_neg c2, if_neg c3, if_neg c4, if_neg c5, if_neg c6, if_pos c8] at hQ
      exact hQ
  · refine ax_s (pc' := 9) (st' := [.int (-1000002)]) rfl rfl rfl rfl ?_
    refine ax_r rfl rfl rfl ?_
    unfold e_m_stand at hQ
    rw [if_pos c1] at hQ
    exact hQ
def e_k_kind (S : Nat → Nat → Int32) (p : Int32) : Int32 := (if ¬ p < 0 ∧ ¬ (S 20 4) ≤ p then (S 22 (p).toNatClampNeg) else (-1000001))
theorem w_k_kind {d : Nat} {X : Nat × (Nat → Int32)} {S : Nat → Nat → Int32} {L : Nat → Int64} {p : Int32} {Q : Option Value → am_H → Prop}  (x1 : ¬ p < 0 ∧ ¬ (S 20 4) ≤ p → am_ix p 6 = true) (hQ : Q (some (.int (e_k_kind S p))) (am_hh X S L)) : am_mt (d + 6) 132 [.ref 5, .int p] (am_hh X S L) Q := by
  refine ax_in (ls := [some (.ref 5), some (.int p)]) rfl ?_
  refine ax_s (pc' := 1) (st' := [.ref 5]) rfl rfl rfl rfl ?_
  refine ax_get rfl (hh_5 _ _ _) rfl rfl rfl ?_
  show am_ex (d + 6) 132 4 [some (.ref 5), some (.int p)] [.ref 20] (am_hh X S L) _
  refine ax_s (pc' := 5) (st' := [.int p, .ref 20]) rfl rfl rfl rfl ?_
  refine ax_call (vs := [.ref 20, .int p]) (rr := []) rfl rfl rfl ?_
  refine kw (am_hh_sub isW20 X S L) (am_hh_sub isW20 X S L).symm (fun _ => ct_hasParty (am_isW_k isW20 X S L)) ?_
  show am_ex (d + 6) 132 8 [some (.ref 5), some (.int p)] [.int (bI (decide (¬ p < 0 ∧ ¬ (S 20 4) ≤ p)))] (am_hh X S L) _
  refine ax_pF rfl (fun c1 => ?_) (fun c1 => ?_)
  · refine ax_s (pc' := 25) (st' := [.int (-1000001)]) rfl rfl rfl rfl ?_
    refine ax_r rfl rfl rfl ?_
    unfold e_k_kind at hQ
    rw [if_neg c1] at hQ
    exact hQ
  · refine ax_s (pc' := 12) (st' := [.ref 5]) rfl rfl rfl rfl ?_
    refine ax_get rfl (hh_5 _ _ _) rfl rfl rfl ?_
    show am_ex (d + 6) 132 15 [some (.ref 5), some (.int p)] [.ref 20] (am_hh X S L) _
    refine ax_get rfl (hh_20 _ _ _) rfl rfl rfl ?_
    show am_ex (d + 6) 132 18 [some (.ref 5), some (.int p)] [.ref 22] (am_hh X S L) _
    refine ax_s (pc' := 19) (st' := [.int p, .ref 22]) rfl rfl rfl rfl ?_
    refine ax_ald' (v := (S 22 (p).toNatClampNeg)) rfl (hh_22 _ _ _) rfl (x1 c1) rfl ?_
    refine ax_s (pc' := 25) (st' := [.int (S 22 (p).toNatClampNeg)]) rfl rfl rfl rfl ?_
    refine ax_r rfl rfl rfl ?_
    unfold e_k_kind at hQ
    rw [if_pos c1] at hQ
    exact hQ
def e_m_kind (S : Nat → Nat → Int32) (p : Int32) : Int32 := (if ¬ p < 0 ∧ ¬ (S 285 7) - 1 < p then (S 290 (p).toNatClampNeg) else (-1000001))
theorem w_m_kind {d : Nat} {X : Nat × (Nat → Int32)} {S : Nat → Nat → Int32} {L : Nat → Int64} {p : Int32} {Q : Option Value → am_H → Prop}  (x1 : ¬ p < 0 ∧ ¬ (S 285 7) - 1 < p → am_ix p 6 = true) (hQ : Q (some (.int (e_m_kind S p))) (am_hh X S L)) : am_mt (d + 6) 221 [.ref 285, .int p] (am_hh X S L) Q := by
  refine ax_in (ls := [some (.ref 285), some (.int p)]) rfl ?_
  refine ax_s (pc' := 1) (st' := [.ref 285]) rfl rfl rfl rfl ?_
  refine ax_s (pc' := 2) (st' := [.int p, .ref 285]) rfl rfl rfl rfl ?_
  refine ax_call (vs := [.ref 285, .int p]) (rr := []) rfl rfl rfl ?_
  refine mt_isParty  ?_
  show am_ex (d + 6) 221 5 [some (.ref 285), some (.int p)] [.int (bI (decide (¬ p < 0 ∧ ¬ (S 285 7) - 1 < p)))] (am_hh X S L) _
  refine ax_pF rfl (fun c1 => ?_) (fun c1 => ?_)
  · refine ax_s (pc' := 19) (st' := [.int (-1000001)]) rfl rfl rfl rfl ?_
    refine ax_r rfl rfl rfl ?_
    unfold e_m_kind at hQ
    rw [if_neg c1] at hQ
    exact hQ
  · refine ax_s (pc' := 9) (st' := [.ref 285]) rfl rfl rfl rfl ?_
    refine ax_get rfl (hh_285 _ _ _) rfl rfl rfl ?_
    show am_ex (d + 6) 221 12 [some (.ref 285), some (.int p)] [.ref 290] (am_hh X S L) _
    refine ax_s (pc' := 13) (st' := [.int p, .ref 290]) rfl rfl rfl rfl ?_
    refine ax_ald' (v := (S 290 (p).toNatClampNeg)) rfl (hh_290 _ _ _) rfl (x1 c1) rfl ?_
    refine ax_s (pc' := 19) (st' := [.int (S 290 (p).toNatClampNeg)]) rfl rfl rfl rfl ?_
    refine ax_r rfl rfl rfl ?_
    unfold e_m_kind at hQ
    rw [if_pos c1] at hQ
    exact hQ
def e_k_trace (S : Nat → Nat → Int32) (p : Int32) : Int32 := (if p < 0 then (-1000000) else (if (S 283 2) ≤ p then (-1000000) else (if 16 ≤ p then (-1000000) else (S 284 (p).toNatClampNeg))))
theorem w_k_trace {d : Nat} {X : Nat × (Nat → Int32)} {S : Nat → Nat → Int32} {L : Nat → Int64} {p : Int32} {Q : Option Value → am_H → Prop}  (x1 : ¬ p < 0 → ¬ (S 283 2) ≤ p → ¬ 16 ≤ p → am_ix p 16 = true) (hQ : Q (some (.int (e_k_trace S p))) (am_hh X S L)) : am_mt (d + 6) 141 [.ref 5, .int p] (am_hh X S L) Q := by
  refine ax_in (ls := [some (.ref 5), some (.int p)]) rfl ?_
  refine ax_s (pc' := 1) (st' := [.int p]) rfl rfl rfl rfl ?_
  refine ax_if_lt rfl (fun c1 => ?_) (fun c1 => ?_)
  · refine ax_s (pc' := 36) (st' := [.int (-1000000)]) rfl rfl rfl rfl ?_
    refine ax_r rfl rfl rfl ?_
    unfold e_k_trace at hQ
    rw [if_pos c1] at hQ
    exact hQ
  · refine ax_s (pc' := 5) (st' := [.int p]) rfl rfl rfl rfl ?_
    refine ax_s (pc' := 6) (st' := [.ref 5, .int p]) rfl rfl rfl rfl ?_
    refine ax_get rfl (hh_5 _ _ _) rfl rfl rfl ?_
    show am_ex (d + 6) 141 9 [some (.ref 5), some (.int p)] [.ref 283, .int p] (am_hh X S L) _
    refine ax_get rfl (hh_283 _ _ _) rfl rfl rfl ?_
    show am_ex (d + 6) 141 12 [some (.ref 5), some (.int p)] [.int (S 283 2), .int p] (am_hh X S L) _
    refine ax_cmp_ge rfl (fun c2 => ?_) (fun c2 => ?_)
    · refine ax_s (pc' := 36) (st' := [.int (-1000000)]) rfl rfl rfl rfl ?_
      refine ax_r rfl rfl rfl ?_
      unfold e_k_trace at hQ
      rw [if_neg c1, if_pos c2] at hQ
      exact hQ
    · refine ax_s (pc' := 16) (st' := [.int p]) rfl rfl rfl rfl ?_
      refine ax_s (pc' := 18) (st' := [.int 16, .int p]) rfl rfl rfl rfl ?_
      refine ax_cmp_ge rfl (fun c3 => ?_) (fun c3 => ?_)
      · refine ax_s (pc' := 36) (st' := [.int (-1000000)]) rfl rfl rfl rfl ?_
        refine ax_r rfl rfl rfl ?_
        unfold e_k_trace at hQ
        rw [if_neg c1, if_neg c2, if_pos c3] at hQ
        exact hQ
      · refine ax_s (pc' := 22) (st' := [.ref 5]) rfl rfl rfl rfl ?_
        refine ax_get rfl (hh_5 _ _ _) rfl rfl rfl ?_
        show am_ex (d + 6) 141 25 [some (.ref 5), some (.int p)] [.ref 283] (am_hh X S L) _
        refine ax_get rfl (hh_283 _ _ _) rfl rfl rfl ?_
        show am_ex (d + 6) 141 28 [some (.ref 5), some (.int p)] [.ref 284] (am_hh X S L) _
        refine ax_s (pc' := 29) (st' := [.int p, .ref 284]) rfl rfl rfl rfl ?_
        refine ax_ald' (v := (S 284 (p).toNatClampNeg)) rfl (hh_284 _ _ _) rfl (x1 c1 c2 c3) rfl ?_
        refine ax_s (pc' := 36) (st' := [.int (S 284 (p).toNatClampNeg)]) rfl rfl rfl rfl ?_
        refine ax_r rfl rfl rfl ?_
        unfold e_k_trace at hQ
        rw [if_neg c1, if_neg c2, if_neg c3] at hQ
        exact hQ
def e_m_trace (S : Nat → Nat → Int32) (p : Int32) : Int32 := (if ¬ p < 0 ∧ ¬ ((S 285 20) - 1) < p then (S 299 (p).toNatClampNeg) else (-1000000))
theorem w_m_trace {d : Nat} {X : Nat × (Nat → Int32)} {S : Nat → Nat → Int32} {L : Nat → Int64} {p : Int32} {Q : Option Value → am_H → Prop}  (x1 : ¬ p < 0 ∧ ¬ ((S 285 20) - 1) < p → am_ix p 16 = true) (hQ : Q (some (.int (e_m_trace S p))) (am_hh X S L)) : am_mt (d + 6) 233 [.ref 285, .int p] (am_hh X S L) Q := by
  refine ax_in (ls := [some (.ref 285), some (.int p)]) rfl ?_
  refine ax_s (pc' := 1) (st' := [.int p]) rfl rfl rfl rfl ?_
  refine ax_s (pc' := 2) (st' := [.int 0, .int p]) rfl rfl rfl rfl ?_
  refine ax_s (pc' := 3) (st' := [.ref 285, .int 0, .int p]) rfl rfl rfl rfl ?_
  refine ax_get rfl (hh_285 _ _ _) rfl rfl rfl ?_
  show am_ex (d + 6) 233 6 [some (.ref 285), some (.int p)] [.int (S 285 20), .int 0, .int p] (am_hh X S L) _
  refine ax_s (pc' := 7) (st' := [.int 1, .int (S 285 20), .int 0, .int p]) rfl rfl rfl rfl ?_
  refine ax_s (pc' := 8) (st' := [.int ((S 285 20) - 1), .int 0, .int p]) rfl rfl rfl rfl ?_
  refine ax_call (vs := [.int p, .int 0, .int ((S 285 20) - 1)]) (rr := []) rfl rfl rfl ?_
  refine mt_in ?_
  show am_ex (d + 6) 233 11 [some (.ref 285), some (.int p)] [.int (bI (decide (¬ p < 0 ∧ ¬ ((S 285 20) - 1) < p)))] (am_hh X S L) _
  refine ax_pF rfl (fun c1 => ?_) (fun c1 => ?_)
  · refine ax_s (pc' := 25) (st' := [.int (-1000000)]) rfl rfl rfl rfl ?_
    refine ax_r rfl rfl rfl ?_
    unfold e_m_trace at hQ
    rw [if_neg c1] at hQ
    exact hQ
  · refine ax_s (pc' := 15) (st' := [.ref 285]) rfl rfl rfl rfl ?_
    refine ax_get rfl (hh_285 _ _ _) rfl rfl rfl ?_
    show am_ex (d + 6) 233 18 [some (.ref 285), some (.int p)] [.ref 299] (am_hh X S L) _
    refine ax_s (pc' := 19) (st' := [.int p, .ref 299]) rfl rfl rfl rfl ?_
    refine ax_ald' (v := (S 299 (p).toNatClampNeg)) rfl (hh_299 _ _ _) rfl (x1 c1) rfl ?_
    refine ax_s (pc' := 25) (st' := [.int (S 299 (p).toNatClampNeg)]) rfl rfl rfl rfl ?_
    refine ax_r rfl rfl rfl ?_
    unfold e_m_trace at hQ
    rw [if_pos c1] at hQ
    exact hQ
def e_k_status (S : Nat → Nat → Int32) : Int32 := (S 5 12)
theorem w_k_status {d : Nat} {X : Nat × (Nat → Int32)} {S : Nat → Nat → Int32} {L : Nat → Int64} {Q : Option Value → am_H → Prop}   (hQ : Q (some (.int (e_k_status S))) (am_hh X S L)) : am_mt (d + 6) 145 [.ref 5] (am_hh X S L) Q := by
  refine ax_in (ls := [some (.ref 5)]) rfl ?_
  refine ax_s (pc' := 1) (st' := [.ref 5]) rfl rfl rfl rfl ?_
  refine ax_get rfl (hh_5 _ _ _) rfl rfl rfl ?_
  show am_ex (d + 6) 145 4 [some (.ref 5)] [.int (S 5 12)] (am_hh X S L) _
  refine ax_r rfl rfl rfl ?_
  unfold e_k_status at hQ
  exact hQ
def e_m_status (S : Nat → Nat → Int32) : Int32 := (S 285 3)
theorem w_m_status {d : Nat} {X : Nat × (Nat → Int32)} {S : Nat → Nat → Int32} {L : Nat → Int64} {Q : Option Value → am_H → Prop}   (hQ : Q (some (.int (e_m_status S))) (am_hh X S L)) : am_mt (d + 6) 237 [.ref 285] (am_hh X S L) Q := by
  refine ax_in (ls := [some (.ref 285)]) rfl ?_
  refine ax_s (pc' := 1) (st' := [.ref 285]) rfl rfl rfl rfl ?_
  refine ax_get rfl (hh_285 _ _ _) rfl rfl rfl ?_
  show am_ex (d + 6) 237 4 [some (.ref 285)] [.int (S 285 3)] (am_hh X S L) _
  refine ax_r rfl rfl rfl ?_
  unfold e_m_status at hQ
  exact hQ
def e_k_fault (S : Nat → Nat → Int32) : Int32 := (S 5 11)
theorem w_k_fault {d : Nat} {X : Nat × (Nat → Int32)} {S : Nat → Nat → Int32} {L : Nat → Int64} {Q : Option Value → am_H → Prop}   (hQ : Q (some (.int (e_k_fault S))) (am_hh X S L)) : am_mt (d + 6) 46 [.ref 5] (am_hh X S L) Q := by
  refine ax_in (ls := [some (.ref 5)]) rfl ?_
  refine ax_s (pc' := 1) (st' := [.ref 5]) rfl rfl rfl rfl ?_
  refine ax_get rfl (hh_5 _ _ _) rfl rfl rfl ?_
  show am_ex (d + 6) 46 4 [some (.ref 5)] [.int (S 5 11)] (am_hh X S L) _
  refine ax_r rfl rfl rfl ?_
  unfold e_k_fault at hQ
  exact hQ
def e_m_fault (S : Nat → Nat → Int32) : Int32 := (S 285 6)
theorem w_m_fault {d : Nat} {X : Nat × (Nat → Int32)} {S : Nat → Nat → Int32} {L : Nat → Int64} {Q : Option Value → am_H → Prop}   (hQ : Q (some (.int (e_m_fault S))) (am_hh X S L)) : am_mt (d + 6) 168 [.ref 285] (am_hh X S L) Q := by
  refine ax_in (ls := [some (.ref 285)]) rfl ?_
  refine ax_s (pc' := 1) (st' := [.ref 285]) rfl rfl rfl rfl ?_
  refine ax_get rfl (hh_285 _ _ _) rfl rfl rfl ?_
  show am_ex (d + 6) 168 4 [some (.ref 285)] [.int (S 285 6)] (am_hh X S L) _
  refine ax_r rfl rfl rfl ?_
  unfold e_m_fault at hQ
  exact hQ
def e_k_feed (S : Nat → Nat → Int32) (p : Int32) : Int32 × (Nat → Nat → Int32) := (if p < 0 then ((-1000001), S) else (if p ≤ 255 then (if (S 18 2) < 100 then (if 100 ≤ (S 18 2) then ((S 18 2), S) else (((S 18 2) + 1), (am_u (am_u S 19 (S 18 2).toNatClampNeg p) 18 2 ((S 18 2) + 1)))) else ((-1000003), S)) else ((-1000001), S)))
theorem w_k_feed {d : Nat} {X : Nat × (Nat → Int32)} {S : Nat → Nat → Int32} {L : Nat → Int64} {p : Int32} {Q : Option Value → am_H → Prop}  (x1 : ¬ p < 0 → p ≤ 255 → (S 18 2) < 100 → ¬ 100 ≤ (S 18 2) → am_ix (S 18 2) 100 = true) (hQ : Q (some (.int (e_k_feed S p).1)) (am_hh X (e_k_feed S p).2 L)) : am_mt (d + 6) 26 [.ref 5, .int p] (am_hh X S L) Q := by
  refine ax_in (ls := [some (.ref 5), some (.int p)]) rfl ?_
  refine ax_s (pc' := 1) (st' := [.int p]) rfl rfl rfl rfl ?_
  refine ax_if_lt rfl (fun c1 => ?_) (fun c1 => ?_)
  · refine ax_s (pc' := 13) (st' := [.int (-1000001)]) rfl rfl rfl rfl ?_
    refine ax_r rfl rfl rfl ?_
    unfold e_k_feed at hQ
    rw [if_pos c1] at hQ
    exact hQ
  · refine ax_s (pc' := 5) (st' := [.int p]) rfl rfl rfl rfl ?_
    refine ax_s (pc' := 8) (st' := [.int 255, .int p]) rfl rfl rfl rfl ?_
    refine ax_cmp_le rfl (fun c2 => ?_) (fun c2 => ?_)
    · refine ax_s (pc' := 15) (st' := [.ref 5]) rfl rfl rfl rfl ?_
      refine ax_get rfl (hh_5 _ _ _) rfl rfl rfl ?_
      show am_ex (d + 6) 26 18 [some (.ref 5), some (.int p)] [.ref 18] (am_hh X S L) _
      refine ax_get rfl (hh_18 _ _ _) rfl rfl rfl ?_
      show am_ex (d + 6) 26 21 [some (.ref 5), some (.int p)] [.int (S 18 2)] (am_hh X S L) _
      refine ax_s (pc' := 23) (st' := [.int 100, .int (S 18 2)]) rfl rfl rfl rfl ?_
      refine ax_cmp_lt rfl (fun c3 => ?_) (fun c3 => ?_)
      · refine ax_s (pc' := 30) (st' := [.ref 5]) rfl rfl rfl rfl ?_
        refine ax_get rfl (hh_5 _ _ _) rfl rfl rfl ?_
        show am_ex (d + 6) 26 33 [some (.ref 5), some (.int p)] [.ref 18] (am_hh X S L) _
        refine ax_s (pc' := 34) (st' := [.int p, .ref 18]) rfl rfl rfl rfl ?_
        refine ax_call (vs := [.ref 18, .int p]) (rr := []) rfl rfl rfl ?_
        refine ax_in (ls := [some (.ref 18), some (.int p)]) rfl ?_
        refine ax_s (pc' := 1) (st' := [.ref 18]) rfl rfl rfl rfl ?_
        refine ax_get rfl (hh_18 _ _ _) rfl rfl rfl ?_
        show am_ex (d + 5) 27 4 [some (.ref 18), some (.int p)] [.int (S 18 2)] (am_hh X S L) _
        refine ax_s (pc' := 6) (st' := [.int 100, .int (S 18 2)]) rfl rfl rfl rfl ?_
        refine ax_cmp_ge rfl (fun c4 => ?_) (fun c4 => ?_)
        · refine ax_s (pc' := 30) (st' := [.ref 18]) rfl rfl rfl rfl ?_
          refine ax_get rfl (hh_18 _ _ _) rfl rfl rfl ?_
          show am_ex (d + 5) 27 33 [some (.ref 18), some (.int p)] [.int (S 18 2)] (am_hh X S L) _
          refine ax_r rfl rfl rfl ?_
          show am_ex (d + 6) 26 37 [some (.ref 5), some (.int p)] [.int (S 18 2)] (am_hh X S L) _
          refine ax_r rfl rfl rfl ?_
          unfold e_k_feed at hQ
          rw [if_neg c1, if_pos c2, if_pos c3, if_pos c4] at hQ
          exact hQ
        · refine ax_s (pc' := 10) (st' := [.ref 18]) rfl rfl rfl rfl ?_
          refine ax_get rfl (hh_18 _ _ _) rfl rfl rfl ?_
          show am_ex (d + 5) 27 13 [some (.ref 18), some (.int p)] [.ref 19] (am_hh X S L) _
          refine ax_s (pc' := 14) (st' := [.ref 18, .ref 19]) rfl rfl rfl rfl ?_
          refine ax_get rfl (hh_18 _ _ _) rfl rfl rfl ?_
          show am_ex (d + 5) 27 17 [some (.ref 18), some (.int p)] [.int (S 18 2), .ref 19] (am_hh X S L) _
          refine ax_s (pc' := 18) (st' := [.int p, .int (S 18 2), .ref 19]) rfl rfl rfl rfl ?_
          refine ax_ast' rfl (hh_19 _ _ _) rfl (x1 c1 c2 c3 c4) (am_hh_set _ _ _ 19 (S 18 2).toNatClampNeg _ rfl) ?_
          refine ax_s (pc' := 20) (st' := [.ref 18]) rfl rfl rfl rfl ?_
          refine ax_s (pc' := 21) (st' := [.ref 18, .ref 18]) rfl rfl rfl rfl ?_
          refine ax_get rfl (hh_18 _ _ _) rfl rfl rfl ?_
          show am_ex (d + 5) 27 24 [some (.ref 18), some (.int p)] [.int (S 18 2), .ref 18] (am_hh X (am_u S 19 (S 18 2).toNatClampNeg p) L) _
          refine ax_s (pc' := 25) (st' := [.int 1, .int (S 18 2), .ref 18]) rfl rfl rfl rfl ?_
          refine ax_s (pc' := 26) (st' := [.int ((S 18 2) + 1), .ref 18]) rfl rfl rfl rfl ?_
          refine ax_put rfl (hh_18 _ _ _) rfl rfl (show 2 + 1 ≤ _ from Nat.le_of_ble_eq_true rfl) rfl (am_hh_set _ _ _ 18 2 _ rfl) ?_
          refine ax_s (pc' := 30) (st' := [.ref 18]) rfl rfl rfl rfl ?_
          refine ax_get rfl (hh_18 _ _ _) rfl rfl rfl ?_
          show am_ex (d + 5) 27 33 [some (.ref 18), some (.int p)] [.int ((S 18 2) + 1)] (am_hh X (am_u (am_u S 19 (S 18 2).toNatClampNeg p) 18 2 ((S 18 2) + 1)) L) _
          refine ax_r rfl rfl rfl ?_
          show am_ex (d + 6) 26 37 [some (.ref 5), some (.int p)] [.int ((S 18 2) + 1)] (am_hh X (am_u (am_u S 19 (S 18 2).toNatClampNeg p) 18 2 ((S 18 2) + 1)) L) _
          refine ax_r rfl rfl rfl ?_
          unfold e_k_feed at hQ
          rw [if_neg c1, if_pos c2, if_pos c3, if_neg c4] at hQ
          exact hQ
      · refine ax_s (pc' := 28) (st' := [.int (-1000003)]) rfl rfl rfl rfl ?_
        refine ax_r rfl rfl rfl ?_
        unfold e_k_feed at hQ
        rw [if_neg c1, if_pos c2, if_neg c3] at hQ
        exact hQ
    · refine ax_s (pc' := 13) (st' := [.int (-1000001)]) rfl rfl rfl rfl ?_
      refine ax_r rfl rfl rfl ?_
      unfold e_k_feed at hQ
      rw [if_neg c1, if_neg c2] at hQ
      exact hQ
def e_m_feed (S : Nat → Nat → Int32) (p : Int32) : Int32 × (Nat → Nat → Int32) := (if ¬ p < 0 ∧ ¬ 255 < p then (if (S 285 5) = 100 then ((-1000003), S) else (((S 285 5) + 1), (am_u (am_u S 289 (S 285 5).toNatClampNeg p) 285 5 ((S 285 5) + 1)))) else ((-1000001), S))
theorem w_m_feed {d : Nat} {X : Nat × (Nat → Int32)} {S : Nat → Nat → Int32} {L : Nat → Int64} {p : Int32} {Q : Option Value → am_H → Prop}  (x1 : ¬ p < 0 ∧ ¬ 255 < p → ¬ (S 285 5) = 100 → am_ix (S 285 5) 100 = true) (hQ : Q (some (.int (e_m_feed S p).1)) (am_hh X (e_m_feed S p).2 L)) : am_mt (d + 6) 157 [.ref 285, .int p] (am_hh X S L) Q := by
  refine ax_in (ls := [some (.ref 285), some (.int p)]) rfl ?_
  refine ax_s (pc' := 1) (st' := [.int p]) rfl rfl rfl rfl ?_
  refine ax_s (pc' := 2) (st' := [.int 0, .int p]) rfl rfl rfl rfl ?_
  refine ax_s (pc' := 5) (st' := [.int 255, .int 0, .int p]) rfl rfl rfl rfl ?_
  refine ax_call (vs := [.int p, .int 0, .int 255]) (rr := []) rfl rfl rfl ?_
  refine mt_in ?_
  show am_ex (d + 6) 157 8 [some (.ref 285), some (.int p)] [.int (bI (decide (¬ p < 0 ∧ ¬ 255 < p)))] (am_hh X S L) _
  refine ax_pT rfl (fun c1 => ?_) (fun c1 => ?_)
  · refine ax_s (pc' := 15) (st' := [.ref 285]) rfl rfl rfl rfl ?_
    refine ax_get rfl (hh_285 _ _ _) rfl rfl rfl ?_
    show am_ex (d + 6) 157 18 [some (.ref 285), some (.int p)] [.int (S 285 5)] (am_hh X S L) _
    refine ax_s (pc' := 20) (st' := [.int 100, .int (S 285 5)]) rfl rfl rfl rfl ?_
    refine ax_cmp_ne rfl (fun c2 => ?_) (fun c2 => ?_)
    · refine ax_s (pc' := 27) (st' := [.ref 285]) rfl rfl rfl rfl ?_
      refine ax_get rfl (hh_285 _ _ _) rfl rfl rfl ?_
      show am_ex (d + 6) 157 30 [some (.ref 285), some (.int p)] [.ref 289] (am_hh X S L) _
      refine ax_s (pc' := 31) (st' := [.ref 285, .ref 289]) rfl rfl rfl rfl ?_
      refine ax_get rfl (hh_285 _ _ _) rfl rfl rfl ?_
      show am_ex (d + 6) 157 34 [some (.ref 285), some (.int p)] [.int (S 285 5), .ref 289] (am_hh X S L) _
      refine ax_s (pc' := 35) (st' := [.int p, .int (S 285 5), .ref 289]) rfl rfl rfl rfl ?_
      refine ax_ast' rfl (hh_289 _ _ _) rfl (x1 c1 c2) (am_hh_set _ _ _ 289 (S 285 5).toNatClampNeg _ rfl) ?_
      refine ax_s (pc' := 37) (st' := [.ref 285]) rfl rfl rfl rfl ?_
      refine ax_s (pc' := 38) (st' := [.ref 285, .ref 285]) rfl rfl rfl rfl ?_
      refine ax_get rfl (hh_285 _ _ _) rfl rfl rfl ?_
      show am_ex (d + 6) 157 41 [some (.ref 285), some (.int p)] [.int (S 285 5), .ref 285] (am_hh X (am_u S 289 (S 285 5).toNatClampNeg p) L) _
      refine ax_s (pc' := 42) (st' := [.int 1, .int (S 285 5), .ref 285]) rfl rfl rfl rfl ?_
      refine ax_s (pc' := 43) (st' := [.int ((S 285 5) + 1), .ref 285]) rfl rfl rfl rfl ?_
      refine ax_put rfl (hh_285 _ _ _) rfl rfl (show 5 + 1 ≤ _ from Nat.le_of_ble_eq_true rfl) rfl (am_hh_set _ _ _ 285 5 _ rfl) ?_
      refine ax_s (pc' := 47) (st' := [.ref 285]) rfl rfl rfl rfl ?_
      refine ax_get rfl (hh_285 _ _ _) rfl rfl rfl ?_
      show am_ex (d + 6) 157 50 [some (.ref 285), some (.int p)] [.int ((S 285 5) + 1)] (am_hh X (am_u (am_u S 289 (S 285 5).toNatClampNeg p) 285 5 ((S 285 5) + 1)) L) _
      refine ax_r rfl rfl rfl ?_
      unfold e_m_feed at hQ
      rw [if_pos c1, if_neg c2] at hQ
      exact hQ
    · refine ax_s (pc' := 25) (st' := [.int (-1000003)]) rfl rfl rfl rfl ?_
      refine ax_r rfl rfl rfl ?_
      unfold e_m_feed at hQ
      rw [if_pos c1, if_pos c2] at hQ
      exact hQ
  · refine ax_s (pc' := 13) (st' := [.int (-1000001)]) rfl rfl rfl rfl ?_
    refine ax_r rfl rfl rfl ?_
    unfold e_m_feed at hQ
    rw [if_neg c1] at hQ
    exact hQ
