def g_k_ahead (S : Nat → Nat → Int32) (p q r : Int32) : Prop := (¬ p < 0 ∧ ¬ (S 20 4) ≤ p) ∧ (¬ (q < 0 ∨ 60 < q)) ∧ (¬ (r < 0 ∨ 3 < r))
def eg_k_ahead (S : Nat → Nat → Int32) (p q r : Int32) : Int32 := (if ¬ p < 0 ∧ ¬ (S 20 4) ≤ p then (if q < 0 ∨ 60 < q then (-1000001) else (if r < 0 ∨ 3 < r then (-1000001) else 0)) else (-1000001))
theorem wg_k_ahead {d : Nat} {X : Nat × (Nat → Int32)} {S : Nat → Nat → Int32} {L : Nat → Int64} {p q r : Int32} {Q : Option Value → am_H → Prop}  (hb : ¬ g_k_ahead S p q r) (hQ : Q (some (.int (eg_k_ahead S p q r))) (am_hh X S L)) : am_mt (d + 8) 80 [.ref 5, .int p, .int q, .int r] (am_hh X S L) Q := by
  refine ax_in (ls := [some (.ref 5), some (.int p), some (.int q), some (.int r)]) rfl ?_
  refine ax_s (pc' := 1) (st' := [.ref 5]) rfl rfl rfl rfl ?_
  refine ax_get rfl (hh_5 _ _ _) rfl rfl rfl ?_
  show am_ex (d + 8) 80 4 [some (.ref 5), some (.int p), some (.int q), some (.int r)] [.ref 20] (am_hh X S L) _
  refine ax_s (pc' := 5) (st' := [.int p, .ref 20]) rfl rfl rfl rfl ?_
  refine ax_call (vs := [.ref 20, .int p]) (rr := []) rfl rfl rfl ?_
  refine kw (am_hh_sub isW20 X S L) (am_hh_sub isW20 X S L).symm (fun _ => ct_hasParty (am_isW_k isW20 X S L)) ?_
  show am_ex (d + 8) 80 8 [some (.ref 5), some (.int p), some (.int q), some (.int r)] [.int (bI (decide (¬ p < 0 ∧ ¬ (S 20 4) ≤ p)))] (am_hh X S L) _
  refine ax_pF rfl (fun c1 => ?_) (fun c1 => ?_)
  · refine ax_s (pc' := 32) (st' := [.int (-1000001)]) rfl rfl rfl rfl ?_
    refine ax_r rfl rfl rfl ?_
    unfold eg_k_ahead at hQ
    rw [if_neg c1] at hQ
    exact hQ
  · refine ax_s (pc' := 12) (st' := [.int q]) rfl rfl rfl rfl ?_
    refine ax_s (pc' := 13) (st' := [.int 0, .int q]) rfl rfl rfl rfl ?_
    refine ax_s (pc' := 15) (st' := [.int 60, .int 0, .int q]) rfl rfl rfl rfl ?_
    refine ax_call (vs := [.int q, .int 0, .int 60]) (rr := []) rfl rfl rfl ?_
    refine ct_isOutside ?_
    show am_ex (d + 8) 80 18 [some (.ref 5), some (.int p), some (.int q), some (.int r)] [.int (bI (decide (q < 0 ∨ 60 < q)))] (am_hh X S L) _
    refine ax_pT rfl (fun c2 => ?_) (fun c2 => ?_)
    · refine ax_s (pc' := 32) (st' := [.int (-1000001)]) rfl rfl rfl rfl ?_
      refine ax_r rfl rfl rfl ?_
      unfold eg_k_ahead at hQ
      rw [if_pos c1, if_pos c2] at hQ
      exact hQ
    · refine ax_s (pc' := 22) (st' := [.int r]) rfl rfl rfl rfl ?_
      refine ax_s (pc' := 23) (st' := [.int 0, .int r]) rfl rfl rfl rfl ?_
      refine ax_s (pc' := 24) (st' := [.int 3, .int 0, .int r]) rfl rfl rfl rfl ?_
      refine ax_call (vs := [.int r, .int 0, .int 3]) (rr := []) rfl rfl rfl ?_
      refine ct_isOutside ?_
      show am_ex (d + 8) 80 27 [some (.ref 5), some (.int p), some (.int q), some (.int r)] [.int (bI (decide (r < 0 ∨ 3 < r)))] (am_hh X S L) _
      refine ax_pF rfl (fun c3 => ?_) (fun c3 => ?_)
      · exact absurd ⟨c1, c2, c3⟩ hb
      · refine ax_s (pc' := 32) (st' := [.int (-1000001)]) rfl rfl rfl rfl ?_
        refine ax_r rfl rfl rfl ?_
        unfold eg_k_ahead at hQ
        rw [if_pos c1, if_neg c2, if_pos c3] at hQ
        exact hQ
def g_m_ahead (S : Nat → Nat → Int32) (p q r : Int32) : Prop := (¬ p < 0 ∧ ¬ (S 285 7) - 1 < p) ∧ (¬ q < 0 ∧ ¬ 60 < q) ∧ (¬ r < 0 ∧ ¬ 3 < r)
def eg_m_ahead (S : Nat → Nat → Int32) (p q r : Int32) : Int32 := (if ¬ p < 0 ∧ ¬ (S 285 7) - 1 < p then (if ¬ q < 0 ∧ ¬ 60 < q then (if ¬ r < 0 ∧ ¬ 3 < r then 0 else (-1000001)) else (-1000001)) else (-1000001))
theorem wg_m_ahead {d : Nat} {X : Nat × (Nat → Int32)} {S : Nat → Nat → Int32} {L : Nat → Int64} {p q r : Int32} {Q : Option Value → am_H → Prop}  (hb : ¬ g_m_ahead S p q r) (hQ : Q (some (.int (eg_m_ahead S p q r))) (am_hh X S L)) : am_mt (d + 8) 194 [.ref 285, .int p, .int q, .int r] (am_hh X S L) Q := by
  refine ax_in (ls := [some (.ref 285), some (.int p), some (.int q), some (.int r)]) rfl ?_
  refine ax_s (pc' := 1) (st' := [.ref 285]) rfl rfl rfl rfl ?_
  refine ax_s (pc' := 2) (st' := [.int p, .ref 285]) rfl rfl rfl rfl ?_
  refine ax_call (vs := [.ref 285, .int p]) (rr := []) rfl rfl rfl ?_
  refine mt_isParty  ?_
  show am_ex (d + 8) 194 5 [some (.ref 285), some (.int p), some (.int q), some (.int r)] [.int (bI (decide (¬ p < 0 ∧ ¬ (S 285 7) - 1 < p)))] (am_hh X S L) _
  refine ax_pF rfl (fun c1 => ?_) (fun c1 => ?_)
  · refine ax_s (pc' := 29) (st' := [.int (-1000001)]) rfl rfl rfl rfl ?_
    refine ax_r rfl rfl rfl ?_
    unfold eg_m_ahead at hQ
    rw [if_neg c1] at hQ
    exact hQ
  · refine ax_s (pc' := 9) (st' := [.int q]) rfl rfl rfl rfl ?_
    refine ax_s (pc' := 10) (st' := [.int 0, .int q]) rfl rfl rfl rfl ?_
    refine ax_s (pc' := 12) (st' := [.int 60, .int 0, .int q]) rfl rfl rfl rfl ?_
    refine ax_call (vs := [.int q, .int 0, .int 60]) (rr := []) rfl rfl rfl ?_
    refine mt_in ?_
    show am_ex (d + 8) 194 15 [some (.ref 285), some (.int p), some (.int q), some (.int r)] [.int (bI (decide (¬ q < 0 ∧ ¬ 60 < q)))] (am_hh X S L) _
    refine ax_pF rfl (fun c2 => ?_) (fun c2 => ?_)
    · refine ax_s (pc' := 29) (st' := [.int (-1000001)]) rfl rfl rfl rfl ?_
      refine ax_r rfl rfl rfl ?_
      unfold eg_m_ahead at hQ
      rw [if_pos c1, if_neg c2] at hQ
      exact hQ
    · refine ax_s (pc' := 19) (st' := [.int r]) rfl rfl rfl rfl ?_
      refine ax_s (pc' := 20) (st' := [.int 0, .int r]) rfl rfl rfl rfl ?_
      refine ax_s (pc' := 21) (st' := [.int 3, .int 0, .int r]) rfl rfl rfl rfl ?_
      refine ax_call (vs := [.int r, .int 0, .int 3]) (rr := []) rfl rfl rfl ?_
      refine mt_in ?_
      show am_ex (d + 8) 194 24 [some (.ref 285), some (.int p), some (.int q), some (.int r)] [.int (bI (decide (¬ r < 0 ∧ ¬ 3 < r)))] (am_hh X S L) _
      refine ax_pT rfl (fun c3 => ?_) (fun c3 => ?_)
      · exact absurd ⟨c1, c2, c3⟩ hb
      · refine ax_s (pc' := 29) (st' := [.int (-1000001)]) rfl rfl rfl rfl ?_
        refine ax_r rfl rfl rfl ?_
        unfold eg_m_ahead at hQ
        rw [if_pos c1, if_pos c2, if_neg c3] at hQ
        exact hQ
theorem wv_k_ahead {d : Nat} {X : Nat × (Nat → Int32)} {S : Nat → Nat → Int32} {L : Nat → Int64} {g n : Nat} {j t : Nat} {r : Int32} {Q : Option Value → am_H → Prop} (hf : wF (am_sub S 20) g n) (hc9 : w_cl (am_sub S 29)) (hc0 : w_cl (am_sub S 20))  (hg : g_k_ahead S (nI j) (nI t) r) (x1 : t < 1000) (x2 : r = 0 → j < 6) (x3 : ¬ r = 0 → r = 1 → j < 6) (x4 : ¬ r = 0 → ¬ r = 1 → r = 2 → j < 6) (x5 : ¬ r = 0 → ¬ r = 1 → ¬ r = 2 → j < 6) (k1 : r = 0 → Q (some (.int ((w_it rk0 g n t (am_sub S 20)) 5 j))) (am_hh X (am_ovl S 29 (w_it rk0 g n t (am_sub S 20))) L)) (k2 : ¬ r = 0 → r = 1 → Q (some (.int (if ((w_it rk0 g n t (am_sub S 20)) 5 j) = 1 then ((w_it rk0 g n t (am_sub S 20)) 6 j) else -1000000))) (am_hh X (am_ovl S 29 (w_it rk0 g n t (am_sub S 20))) L)) (k3 : ¬ r = 0 → ¬ r = 1 → r = 2 → Q (some (.int ((w_it rk0 g n t (am_sub S 20)) 7 j))) (am_hh X (am_ovl S 29 (w_it rk0 g n t (am_sub S 20))) L)) (k4 : ¬ r = 0 → ¬ r = 1 → ¬ r = 2 → Q (some (.int ((w_it rk0 g n t (am_sub S 20)) 8 j))) (am_hh X (am_ovl S 29 (w_it rk0 g n t (am_sub S 20))) L)) : am_mt (d + 8) 80 [.ref 5, .int (nI j), .int (nI t), .int r] (am_hh X S L) Q := by
  refine ax_in (ls := [some (.ref 5), some (.int (nI j)), some (.int (nI t)), some (.int r)]) rfl ?_
  refine ax_s (pc' := 1) (st' := [.ref 5]) rfl rfl rfl rfl ?_
  refine ax_get rfl (hh_5 _ _ _) rfl rfl rfl ?_
  show am_ex (d + 8) 80 4 [some (.ref 5), some (.int (nI j)), some (.int (nI t)), some (.int r)] [.ref 20] (am_hh X S L) _
  refine ax_s (pc' := 5) (st' := [.int (nI j), .ref 20]) rfl rfl rfl rfl ?_
  refine ax_call (vs := [.ref 20, .int (nI j)]) (rr := []) rfl rfl rfl ?_
  refine kw (am_hh_sub isW20 X S L) (am_hh_sub isW20 X S L).symm (fun _ => ct_hasParty (am_isW_k isW20 X S L)) ?_
  show am_ex (d + 8) 80 8 [some (.ref 5), some (.int (nI j)), some (.int (nI t)), some (.int r)] [.int (bI (decide (¬ (nI j) < 0 ∧ ¬ (S 20 4) ≤ (nI j))))] (am_hh X S L) _
  refine ax_pF rfl (fun c1 => ?_) (fun c1 => ?_)
  · refine ax_s (pc' := 32) (st' := [.int (-1000001)]) rfl rfl rfl rfl ?_
    refine ax_r rfl rfl rfl ?_
    first | exact absurd (hg.1) c1 | exact absurd c1 (hg.1) | exact absurd (hg.1) (ne_true_of_eq_false c1)
  · refine ax_s (pc' := 12) (st' := [.int (nI t)]) rfl rfl rfl rfl ?_
    refine ax_s (pc' := 13) (st' := [.int 0, .int (nI t)]) rfl rfl rfl rfl ?_
    refine ax_s (pc' := 15) (st' := [.int 60, .int 0, .int (nI t)]) rfl rfl rfl rfl ?_
    refine ax_call (vs := [.int (nI t), .int 0, .int 60]) (rr := []) rfl rfl rfl ?_
    refine ct_isOutside ?_
    show am_ex (d + 8) 80 18 [some (.ref 5), some (.int (nI j)), some (.int (nI t)), some (.int r)] [.int (bI (decide ((nI t) < 0 ∨ 60 < (nI t))))] (am_hh X S L) _
    refine ax_pT rfl (fun c2 => ?_) (fun c2 => ?_)
    · refine ax_s (pc' := 32) (st' := [.int (-1000001)]) rfl rfl rfl rfl ?_
      refine ax_r rfl rfl rfl ?_
      first | exact absurd (hg.2.1) c2 | exact absurd c2 (hg.2.1) | exact absurd (hg.2.1) (ne_true_of_eq_false c2)
    · refine ax_s (pc' := 22) (st' := [.int r]) rfl rfl rfl rfl ?_
      refine ax_s (pc' := 23) (st' := [.int 0, .int r]) rfl rfl rfl rfl ?_
      refine ax_s (pc' := 24) (st' := [.int 3, .int 0, .int r]) rfl rfl rfl rfl ?_
      refine ax_call (vs := [.int r, .int 0, .int 3]) (rr := []) rfl rfl rfl ?_
      refine ct_isOutside ?_
      show am_ex (d + 8) 80 27 [some (.ref 5), some (.int (nI j)), some (.int (nI t)), some (.int r)] [.int (bI (decide (r < 0 ∨ 3 < r)))] (am_hh X S L) _
      refine ax_pF rfl (fun c3 => ?_) (fun c3 => ?_)
      · refine ax_s (pc' := 34) (st' := [.ref 5]) rfl rfl rfl rfl ?_
        refine ax_get rfl (hh_5 _ _ _) rfl rfl rfl ?_
        show am_ex (d + 8) 80 37 [some (.ref 5), some (.int (nI j)), some (.int (nI t)), some (.int r)] [.ref 276] (am_hh X S L) _
        refine ax_s (pc' := 38) (st' := [.int (nI t), .ref 276]) rfl rfl rfl rfl ?_
        refine ax_call (vs := [.ref 276, .int (nI t)]) (rr := []) rfl rfl rfl ?_
        refine kt_goOn (K := t) rfl (Nat.lt_trans x1 (by decide)) hf hc9 hc0 ?_
        show am_ex (d + 8) 80 41 [some (.ref 5), some (.int (nI j)), some (.int (nI t)), some (.int r)] [] (am_hh X (am_ovl S 29 (w_it rk0 g n t (am_sub S 20))) L) _
        refine ax_s (pc' := 42) (st' := [.int r]) rfl rfl rfl rfl ?_
        by_cases c1 : r = 0
        · refine ax_s (pc' := 68) (ls' := [some (.ref 5), some (.int (nI j)), some (.int (nI t)), some (.int r)]) (st' := []) (h1 := (am_hh X (am_ovl S 29 (w_it rk0 g n t (am_sub S 20))) L)) rfl (by rw [c1]; rfl) rfl rfl ?_
          refine ax_s (pc' := 69) (st' := [.ref 5]) rfl rfl rfl rfl ?_
          refine ax_get rfl (hh_5 _ _ _) rfl rfl rfl ?_
          show am_ex (d + 8) 80 72 [some (.ref 5), some (.int (nI j)), some (.int (nI t)), some (.int r)] [.ref 29] (am_hh X (am_ovl S 29 (w_it rk0 g n t (am_sub S 20))) L) _
          refine ax_get rfl (hh_29 _ _ _) rfl rfl rfl ?_
          show am_ex (d + 8) 80 75 [some (.ref 5), some (.int (nI j)), some (.int (nI t)), some (.int r)] [.ref 34] (am_hh X (am_ovl S 29 (w_it rk0 g n t (am_sub S 20))) L) _
          refine ax_s (pc' := 76) (st' := [.int (nI j), .ref 34]) rfl rfl rfl rfl ?_
          refine ax_ald (j := j) (v := ((w_it rk0 g n t (am_sub S 20)) 5 j)) rfl (hh_34 _ _ _) rfl rfl (x2 c1) (by decide) rfl ?_
          refine ax_r rfl rfl rfl ?_
          exact k1 c1
        by_cases c2 : r = 1
        · refine ax_s (pc' := 78) (ls' := [some (.ref 5), some (.int (nI j)), some (.int (nI t)), some (.int r)]) (st' := []) (h1 := (am_hh X (am_ovl S 29 (w_it rk0 g n t (am_sub S 20))) L)) rfl (by rw [c2]; rfl) rfl rfl ?_
          refine ax_s (pc' := 79) (st' := [.ref 5]) rfl rfl rfl rfl ?_
          refine ax_get rfl (hh_5 _ _ _) rfl rfl rfl ?_
          show am_ex (d + 8) 80 82 [some (.ref 5), some (.int (nI j)), some (.int (nI t)), some (.int r)] [.ref 29] (am_hh X (am_ovl S 29 (w_it rk0 g n t (am_sub S 20))) L) _
          refine ax_s (pc' := 83) (st' := [.int (nI j), .ref 29]) rfl rfl rfl rfl ?_
          refine ax_call (vs := [.ref 29, .int (nI j)]) (rr := []) rfl rfl rfl ?_
          refine kw (am_hh_ov isW29 X S L (w_it rk0 g n t (am_sub S 20))).symm (am_hh_ov isW29 X S L (w_it rk0 g n t (am_sub S 20))).symm.symm (fun _ => ct_seatOf (am_isW_k isW29 X S L) rfl (x3 c1 c2)) ?_
          show am_ex (d + 8) 80 86 [some (.ref 5), some (.int (nI j)), some (.int (nI t)), some (.int r)] [.int (if ((w_it rk0 g n t (am_sub S 20)) 5 j) = 1 then ((w_it rk0 g n t (am_sub S 20)) 6 j) else -1000000)] (am_hh X (am_ovl S 29 (w_it rk0 g n t (am_sub S 20))) L) _
          refine ax_r rfl rfl rfl ?_
          exact k2 c1 c2
        by_cases c3 : r = 2
        · refine ax_s (pc' := 87) (ls' := [some (.ref 5), some (.int (nI j)), some (.int (nI t)), some (.int r)]) (st' := []) (h1 := (am_hh X (am_ovl S 29 (w_it rk0 g n t (am_sub S 20))) L)) rfl (by rw [c3]; rfl) rfl rfl ?_
          refine ax_s (pc' := 88) (st' := [.ref 5]) rfl rfl rfl rfl ?_
          refine ax_get rfl (hh_5 _ _ _) rfl rfl rfl ?_
          show am_ex (d + 8) 80 91 [some (.ref 5), some (.int (nI j)), some (.int (nI t)), some (.int r)] [.ref 29] (am_hh X (am_ovl S 29 (w_it rk0 g n t (am_sub S 20))) L) _
          refine ax_get rfl (hh_29 _ _ _) rfl rfl rfl ?_
          show am_ex (d + 8) 80 94 [some (.ref 5), some (.int (nI j)), some (.int (nI t)), some (.int r)] [.ref 36] (am_hh X (am_ovl S 29 (w_it rk0 g n t (am_sub S 20))) L) _
          refine ax_s (pc' := 95) (st' := [.int (nI j), .ref 36]) rfl rfl rfl rfl ?_
          refine ax_ald (j := j) (v := ((w_it rk0 g n t (am_sub S 20)) 7 j)) rfl (hh_36 _ _ _) rfl rfl (x4 c1 c2 c3) (by decide) rfl ?_
          refine ax_r rfl rfl rfl ?_
          exact k3 c1 c2 c3
        refine ax_s (pc' := 97) (ls' := [some (.ref 5), some (.int (nI j)), some (.int (nI t)), some (.int r)]) (st' := []) (h1 := (am_hh X (am_ovl S 29 (w_it rk0 g n t (am_sub S 20))) L)) rfl (am_tsw [0, 1, 2] (by decide) (by decide) (by intro q hq; simp only [List.mem_cons, List.not_mem_nil, or_false] at hq; rcases hq with rfl | rfl | rfl <;> first | exact lv_neT c1 (by decide) | exact lv_neT c2 (by decide) | exact lv_neT c3 (by decide)) (by decide)) rfl rfl ?_
        refine ax_s (pc' := 98) (st' := [.ref 5]) rfl rfl rfl rfl ?_
        refine ax_get rfl (hh_5 _ _ _) rfl rfl rfl ?_
        show am_ex (d + 8) 80 101 [some (.ref 5), some (.int (nI j)), some (.int (nI t)), some (.int r)] [.ref 29] (am_hh X (am_ovl S 29 (w_it rk0 g n t (am_sub S 20))) L) _
        refine ax_get rfl (hh_29 _ _ _) rfl rfl rfl ?_
        show am_ex (d + 8) 80 104 [some (.ref 5), some (.int (nI j)), some (.int (nI t)), some (.int r)] [.ref 37] (am_hh X (am_ovl S 29 (w_it rk0 g n t (am_sub S 20))) L) _
        refine ax_s (pc' := 105) (st' := [.int (nI j), .ref 37]) rfl rfl rfl rfl ?_
        refine ax_ald (j := j) (v := ((w_it rk0 g n t (am_sub S 20)) 8 j)) rfl (hh_37 _ _ _) rfl rfl (x5 c1 c2 c3) (by decide) rfl ?_
        refine ax_r rfl rfl rfl ?_
        exact k4 c1 c2 c3
      · refine ax_s (pc' := 32) (st' := [.int (-1000001)]) rfl rfl rfl rfl ?_
        refine ax_r rfl rfl rfl ?_
        first | exact absurd (hg.2.2) c3 | exact absurd c3 (hg.2.2) | exact absurd (hg.2.2) (ne_true_of_eq_false c3)
theorem wv_m_ahead {d : Nat} {X : Nat × (Nat → Int32)} {S : Nat → Nat → Int32} {L : Nat → Int64} {g n : Nat} {W : Nat → Nat → Int32} {j t : Nat} {r : Int32} {Q : Option Value → am_H → Prop} (hR : mR W S 293 g n) (hK : JK S)  (hg : g_m_ahead S (nI j) (nI t) r) (x1 : ∀ S1 : Nat → Nat → Int32, mR W S1 298 g n → F8 S S1 → t < 1000) (x2 : ∀ S1 : Nat → Nat → Int32, mR W S1 298 g n → F8 S S1 → ∀ S2 : Nat → Nat → Int32, mR (w_it rk0 g n t W) S2 298 g n → F8 S1 S2 → ¬ r = 0 → ¬ r = 1 → ¬ r = 2 → (33 + j) < 39) (x3 : ∀ S1 : Nat → Nat → Int32, mR W S1 298 g n → F8 S S1 → ∀ S2 : Nat → Nat → Int32, mR (w_it rk0 g n t W) S2 298 g n → F8 S1 S2 → ¬ r = 0 → ¬ r = 1 → r = 2 → (27 + j) < 39) (x4 : ∀ S1 : Nat → Nat → Int32, mR W S1 298 g n → F8 S S1 → ∀ S2 : Nat → Nat → Int32, mR (w_it rk0 g n t W) S2 298 g n → F8 S1 S2 → ¬ r = 0 → r = 1 → (21 + j) < 39) (x5 : ∀ S1 : Nat → Nat → Int32, mR W S1 298 g n → F8 S S1 → ∀ S2 : Nat → Nat → Int32, mR (w_it rk0 g n t W) S2 298 g n → F8 S1 S2 → r = 0 → (15 + j) < 39) (k1 : ∀ S1 : Nat → Nat → Int32, mR W S1 298 g n → F8 S S1 → ∀ S2 : Nat → Nat → Int32, mR (w_it rk0 g n t W) S2 298 g n → F8 S1 S2 → ¬ r = 0 → ¬ r = 1 → ¬ r = 2 → Q (some (.int (S2 298 (33 + j)))) (am_hh X S2 L)) (k2 : ∀ S1 : Nat → Nat → Int32, mR W S1 298 g n → F8 S S1 → ∀ S2 : Nat → Nat → Int32, mR (w_it rk0 g n t W) S2 298 g n → F8 S1 S2 → ¬ r = 0 → ¬ r = 1 → r = 2 → Q (some (.int (S2 298 (27 + j)))) (am_hh X S2 L)) (k3 : ∀ S1 : Nat → Nat → Int32, mR W S1 298 g n → F8 S S1 → ∀ S2 : Nat → Nat → Int32, mR (w_it rk0 g n t W) S2 298 g n → F8 S1 S2 → ¬ r = 0 → r = 1 → Q (some (.int (S2 298 (21 + j)))) (am_hh X S2 L)) (k4 : ∀ S1 : Nat → Nat → Int32, mR W S1 298 g n → F8 S S1 → ∀ S2 : Nat → Nat → Int32, mR (w_it rk0 g n t W) S2 298 g n → F8 S1 S2 → r = 0 → Q (some (.int (S2 298 (15 + j)))) (am_hh X S2 L)) : am_mt (d + 8) 194 [.ref 285, .int (nI j), .int (nI t), .int r] (am_hh X S L) Q := by
  refine ax_in (ls := [some (.ref 285), some (.int (nI j)), some (.int (nI t)), some (.int r)]) rfl ?_
  refine ax_s (pc' := 1) (st' := [.ref 285]) rfl rfl rfl rfl ?_
  refine ax_s (pc' := 2) (st' := [.int (nI j), .ref 285]) rfl rfl rfl rfl ?_
  refine ax_call (vs := [.ref 285, .int (nI j)]) (rr := []) rfl rfl rfl ?_
  refine mt_isParty  ?_
  show am_ex (d + 8) 194 5 [some (.ref 285), some (.int (nI j)), some (.int (nI t)), some (.int r)] [.int (bI (decide (¬ (nI j) < 0 ∧ ¬ (S 285 7) - 1 < (nI j))))] (am_hh X S L) _
  refine ax_pF rfl (fun c1 => ?_) (fun c1 => ?_)
  · refine ax_s (pc' := 29) (st' := [.int (-1000001)]) rfl rfl rfl rfl ?_
    refine ax_r rfl rfl rfl ?_
    first | exact absurd (hg.1) c1 | exact absurd c1 (hg.1) | exact absurd (hg.1) (ne_true_of_eq_false c1)
  · refine ax_s (pc' := 9) (st' := [.int (nI t)]) rfl rfl rfl rfl ?_
    refine ax_s (pc' := 10) (st' := [.int 0, .int (nI t)]) rfl rfl rfl rfl ?_
    refine ax_s (pc' := 12) (st' := [.int 60, .int 0, .int (nI t)]) rfl rfl rfl rfl ?_
    refine ax_call (vs := [.int (nI t), .int 0, .int 60]) (rr := []) rfl rfl rfl ?_
    refine mt_in ?_
    show am_ex (d + 8) 194 15 [some (.ref 285), some (.int (nI j)), some (.int (nI t)), some (.int r)] [.int (bI (decide (¬ (nI t) < 0 ∧ ¬ 60 < (nI t))))] (am_hh X S L) _
    refine ax_pF rfl (fun c2 => ?_) (fun c2 => ?_)
    · refine ax_s (pc' := 29) (st' := [.int (-1000001)]) rfl rfl rfl rfl ?_
      refine ax_r rfl rfl rfl ?_
      first | exact absurd (hg.2.1) c2 | exact absurd c2 (hg.2.1) | exact absurd (hg.2.1) (ne_true_of_eq_false c2)
    · refine ax_s (pc' := 19) (st' := [.int r]) rfl rfl rfl rfl ?_
      refine ax_s (pc' := 20) (st' := [.int 0, .int r]) rfl rfl rfl rfl ?_
      refine ax_s (pc' := 21) (st' := [.int 3, .int 0, .int r]) rfl rfl rfl rfl ?_
      refine ax_call (vs := [.int r, .int 0, .int 3]) (rr := []) rfl rfl rfl ?_
      refine mt_in ?_
      show am_ex (d + 8) 194 24 [some (.ref 285), some (.int (nI j)), some (.int (nI t)), some (.int r)] [.int (bI (decide (¬ r < 0 ∧ ¬ 3 < r)))] (am_hh X S L) _
      refine ax_pT rfl (fun c3 => ?_) (fun c3 => ?_)
      · refine ax_s (pc' := 31) (st' := [.ref 285]) rfl rfl rfl rfl ?_
        refine ax_call (vs := [.ref 285]) (rr := []) rfl rfl rfl ?_
        refine mt_asItIs' (F8_m F8_r hR) (fun S1 hm1 hf1 => ?_)
        show am_ex (d + 8) 194 34 [some (.ref 285), some (.int (nI j)), some (.int (nI t)), some (.int r)] [] (am_hh X S1 L) _
        refine ax_s (pc' := 35) (st' := [.ref 285]) rfl rfl rfl rfl ?_
        refine ax_s (pc' := 36) (st' := [.int (nI t), .ref 285]) rfl rfl rfl rfl ?_
        refine ax_call (vs := [.ref 285, .int (nI t)]) (rr := []) rfl rfl rfl ?_
        refine mt_goes (K := t) rfl (Nat.lt_trans (x1 S1 hm1 hf1) (by decide)) (F8_K (F8_t F8_r hf1) hK) hm1 (fun S2 hm2 hf2 => ?_)
        show am_ex (d + 8) 194 39 [some (.ref 285), some (.int (nI j)), some (.int (nI t)), some (.int r)] [.int (w_sn rk0 g n t W 0)] (am_hh X S2 L) _
        refine ax_s (pc' := 40) (st' := []) rfl rfl rfl rfl ?_
        refine ax_s (pc' := 41) (st' := [.ref 285]) rfl rfl rfl rfl ?_
        refine ax_get rfl (hh_285 _ _ _) rfl rfl rfl ?_
        show am_ex (d + 8) 194 44 [some (.ref 285), some (.int (nI j)), some (.int (nI t)), some (.int r)] [.ref 298] (am_hh X S2 L) _
        refine ax_s (pc' := 45) (st' := [.int r, .ref 298]) rfl rfl rfl rfl ?_
        refine ax_if_ne rfl (fun c3 => ?_) (fun c3 => ?_)
        · refine ax_s (pc' := 56) (st' := [.int r, .ref 298]) rfl rfl rfl rfl ?_
          refine ax_s (pc' := 57) (st' := [.int 1, .int r, .ref 298]) rfl rfl rfl rfl ?_
          refine ax_cmp_ne rfl (fun c4 => ?_) (fun c4 => ?_)
          · refine ax_s (pc' := 68) (st' := [.int r, .ref 298]) rfl rfl rfl rfl ?_
            refine ax_s (pc' := 69) (st' := [.int 2, .int r, .ref 298]) rfl rfl rfl rfl ?_
            refine ax_cmp_ne rfl (fun c5 => ?_) (fun c5 => ?_)
            · refine ax_s (pc' := 81) (st' := [.int 33, .ref 298]) rfl rfl rfl rfl ?_
              refine ax_s (pc' := 82) (st' := [.int (nI j), .int 33, .ref 298]) rfl rfl rfl rfl ?_
              refine ax_s (pc' := 83) (st' := [.int (33 + (nI j)), .ref 298]) rfl rfl rfl rfl ?_
              refine ax_ald (j := (33 + j)) (v := (S2 298 (33 + j))) rfl (hh_298 _ _ _) rfl (am_na (x := 33) (y := j) rfl rfl) (x2 S1 hm1 hf1 S2 hm2 hf2 c3 c4 c5) (by decide) rfl ?_
              refine ax_r rfl rfl rfl ?_
              exact k1 S1 hm1 hf1 S2 hm2 hf2 c3 c4 c5
            · refine ax_s (pc' := 74) (st' := [.int 27, .ref 298]) rfl rfl rfl rfl ?_
              refine ax_s (pc' := 75) (st' := [.int (nI j), .int 27, .ref 298]) rfl rfl rfl rfl ?_
              refine ax_s (pc' := 76) (st' := [.int (27 + (nI j)), .ref 298]) rfl rfl rfl rfl ?_
              refine ax_s (pc' := 83) (st' := [.int (27 + (nI j)), .ref 298]) rfl rfl rfl rfl ?_
              refine ax_ald (j := (27 + j)) (v := (S2 298 (27 + j))) rfl (hh_298 _ _ _) rfl (am_na (x := 27) (y := j) rfl rfl) (x3 S1 hm1 hf1 S2 hm2 hf2 c3 c4 c5) (by decide) rfl ?_
              refine ax_r rfl rfl rfl ?_
              exact k2 S1 hm1 hf1 S2 hm2 hf2 c3 c4 c5
          · refine ax_s (pc' := 62) (st' := [.int 21, .ref 298]) rfl rfl rfl rfl ?_
            refine ax_s (pc' := 63) (st' := [.int (nI j), .int 21, .ref 298]) rfl rfl rfl rfl ?_
            refine ax_s (pc' := 64) (st' := [.int (21 + (nI j)), .ref 298]) rfl rfl rfl rfl ?_
            refine ax_s (pc' := 83) (st' := [.int (21 + (nI j)), .ref 298]) rfl rfl rfl rfl ?_
            refine ax_ald (j := (21 + j)) (v := (S2 298 (21 + j))) rfl (hh_298 _ _ _) rfl (am_na (x := 21) (y := j) rfl rfl) (x4 S1 hm1 hf1 S2 hm2 hf2 c3 c4) (by decide) rfl ?_
            refine ax_r rfl rfl rfl ?_
            exact k3 S1 hm1 hf1 S2 hm2 hf2 c3 c4
        · refine ax_s (pc' := 50) (st' := [.int 15, .ref 298]) rfl rfl rfl rfl ?_
          refine ax_s (pc' := 51) (st' := [.int (nI j), .int 15, .ref 298]) rfl rfl rfl rfl ?_
          refine ax_s (pc' := 52) (st' := [.int (15 + (nI j)), .ref 298]) rfl rfl rfl rfl ?_
          refine ax_s (pc' := 83) (st' := [.int (15 + (nI j)), .ref 298]) rfl rfl rfl rfl ?_
          refine ax_ald (j := (15 + j)) (v := (S2 298 (15 + j))) rfl (hh_298 _ _ _) rfl (am_na (x := 15) (y := j) rfl rfl) (x5 S1 hm1 hf1 S2 hm2 hf2 c3) (by decide) rfl ?_
          refine ax_r rfl rfl rfl ?_
          exact k4 S1 hm1 hf1 S2 hm2 hf2 c3
      · refine ax_s (pc' := 29) (st' := [.int (-1000001)]) rfl rfl rfl rfl ?_
        refine ax_r rfl rfl rfl ?_
        first | exact absurd (hg.2.2) c3 | exact absurd c3 (hg.2.2) | exact absurd (hg.2.2) (ne_true_of_eq_false c3)
def g_k_leans (S : Nat → Nat → Int32) (p : Int32) : Prop := ¬ (S 20 4) ≤ 0 ∧ (¬ (p < 0 ∨ 60 < p))
def eg_k_leans (S : Nat → Nat → Int32) (p : Int32) : Int32 := (if (S 20 4) ≤ 0 then (-1000002) else (if p < 0 ∨ 60 < p then (-1000001) else 0))
theorem wg_k_leans {d : Nat} {X : Nat × (Nat → Int32)} {S : Nat → Nat → Int32} {L : Nat → Int64} {p : Int32} {Q : Option Value → am_H → Prop}  (hb : ¬ g_k_leans S p) (hQ : Q (some (.int (eg_k_leans S p))) (am_hh X S L)) : am_mt (d + 8) 82 [.ref 5, .int p] (am_hh X S L) Q := by
  refine ax_in (ls := [some (.ref 5), some (.int p)]) rfl ?_
  refine ax_s (pc' := 1) (st' := [.ref 5]) rfl rfl rfl rfl ?_
  refine ax_get rfl (hh_5 _ _ _) rfl rfl rfl ?_
  show am_ex (d + 8) 82 4 [some (.ref 5), some (.int p)] [.ref 20] (am_hh X S L) _
  refine ax_call (vs := [.ref 20]) (rr := []) rfl rfl rfl ?_
  refine kw (am_hh_sub isW20 X S L) (am_hh_sub isW20 X S L).symm (fun _ => ct_stands (am_isW_k isW20 X S L)) ?_
  show am_ex (d + 8) 82 7 [some (.ref 5), some (.int p)] [.int (bI (decide (¬ (S 20 4) ≤ 0)))] (am_hh X S L) _
  refine ax_qT rfl (fun c1 => ?_) (fun c1 => ?_)
  · refine ax_s (pc' := 14) (st' := [.int p]) rfl rfl rfl rfl ?_
    refine ax_s (pc' := 15) (st' := [.int 0, .int p]) rfl rfl rfl rfl ?_
    refine ax_s (pc' := 17) (st' := [.int 60, .int 0, .int p]) rfl rfl rfl rfl ?_
    refine ax_call (vs := [.int p, .int 0, .int 60]) (rr := []) rfl rfl rfl ?_
    refine ct_isOutside ?_
    show am_ex (d + 8) 82 20 [some (.ref 5), some (.int p)] [.int (bI (decide (p < 0 ∨ 60 < p)))] (am_hh X S L) _
    refine ax_pF rfl (fun c2 => ?_) (fun c2 => ?_)
    · exact absurd ⟨c1, c2⟩ hb
    · refine ax_s (pc' := 25) (st' := [.int (-1000001)]) rfl rfl rfl rfl ?_
      refine ax_r rfl rfl rfl ?_
      unfold eg_k_leans at hQ
      rw [if_neg c1, if_pos c2] at hQ
      exact hQ
  · refine ax_s (pc' := 12) (st' := [.int (-1000002)]) rfl rfl rfl rfl ?_
    refine ax_r rfl rfl rfl ?_
    unfold eg_k_leans at hQ
    rw [if_pos c1] at hQ
    exact hQ
def g_m_leans (S : Nat → Nat → Int32) (p : Int32) : Prop := ¬ ((S 285 8) = 0) ∧ (¬ p < 0 ∧ ¬ 60 < p)
def eg_m_leans (S : Nat → Nat → Int32) (p : Int32) : Int32 := (if (S 285 8) = 0 then (-1000002) else (if ¬ p < 0 ∧ ¬ 60 < p then 0 else (-1000001)))
theorem wg_m_leans {d : Nat} {X : Nat × (Nat → Int32)} {S : Nat → Nat → Int32} {L : Nat → Int64} {p : Int32} {Q : Option Value → am_H → Prop}  (hb : ¬ g_m_leans S p) (hQ : Q (some (.int (eg_m_leans S p))) (am_hh X S L)) : am_mt (d + 8) 197 [.ref 285, .int p] (am_hh X S L) Q := by
  refine ax_in (ls := [some (.ref 285), some (.int p)]) rfl ?_
  refine ax_s (pc' := 1) (st' := [.ref 285]) rfl rfl rfl rfl ?_
  refine ax_call (vs := [.ref 285]) (rr := []) rfl rfl rfl ?_
  refine mt_isNone  ?_
  show am_ex (d + 8) 197 4 [some (.ref 285), some (.int p)] [.int (bI (decide ((S 285 8) = 0)))] (am_hh X S L) _
  refine ax_pF rfl (fun c1 => ?_) (fun c1 => ?_)
  · refine ax_s (pc' := 11) (st' := [.int p]) rfl rfl rfl rfl ?_
    refine ax_s (pc' := 12) (st' := [.int 0, .int p]) rfl rfl rfl rfl ?_
    refine ax_s (pc' := 14) (st' := [.int 60, .int 0, .int p]) rfl rfl rfl rfl ?_
    refine ax_call (vs := [.int p, .int 0, .int 60]) (rr := []) rfl rfl rfl ?_
    refine mt_in ?_
    show am_ex (d + 8) 197 17 [some (.ref 285), some (.int p)] [.int (bI (decide (¬ p < 0 ∧ ¬ 60 < p)))] (am_hh X S L) _
    refine ax_pT rfl (fun c2 => ?_) (fun c2 => ?_)
    · exact absurd ⟨c1, c2⟩ hb
    · refine ax_s (pc' := 22) (st' := [.int (-1000001)]) rfl rfl rfl rfl ?_
      refine ax_r rfl rfl rfl ?_
      unfold eg_m_leans at hQ
      rw [if_neg c1, if_neg c2] at hQ
      exact hQ
  · refine ax_s (pc' := 9) (st' := [.int (-1000002)]) rfl rfl rfl rfl ?_
    refine ax_r rfl rfl rfl ?_
    unfold eg_m_leans at hQ
    rw [if_pos c1] at hQ
    exact hQ
theorem wv_k_leans {d : Nat} {X : Nat × (Nat → Int32)} {S : Nat → Nat → Int32} {L : Nat → Int64} {g n : Nat} {t : Nat} {Q : Option Value → am_H → Prop} (hf : wF (am_sub S 20) g n) (hc9 : w_cl (am_sub S 29)) (hc0 : w_cl (am_sub S 20))  (hg : g_k_leans S (nI t)) (x1 : t < 1000) (k1 : Q (some (.int (w_lean (w_it rk0 g n t (am_sub S 20)) g n ((w_it rk0 g n t (am_sub S 20)) 0 2)))) (am_hh X (am_ovl S 29 (w_it rk0 g n t (am_sub S 20))) L)) : am_mt (d + 8) 82 [.ref 5, .int (nI t)] (am_hh X S L) Q := by
  refine ax_in (ls := [some (.ref 5), some (.int (nI t))]) rfl ?_
  refine ax_s (pc' := 1) (st' := [.ref 5]) rfl rfl rfl rfl ?_
  refine ax_get rfl (hh_5 _ _ _) rfl rfl rfl ?_
  show am_ex (d + 8) 82 4 [some (.ref 5), some (.int (nI t))] [.ref 20] (am_hh X S L) _
  refine ax_call (vs := [.ref 20]) (rr := []) rfl rfl rfl ?_
  refine kw (am_hh_sub isW20 X S L) (am_hh_sub isW20 X S L).symm (fun _ => ct_stands (am_isW_k isW20 X S L)) ?_
  show am_ex (d + 8) 82 7 [some (.ref 5), some (.int (nI t))] [.int (bI (decide (¬ (S 20 4) ≤ 0)))] (am_hh X S L) _
  refine ax_qT rfl (fun c1 => ?_) (fun c1 => ?_)
  · refine ax_s (pc' := 14) (st' := [.int (nI t)]) rfl rfl rfl rfl ?_
    refine ax_s (pc' := 15) (st' := [.int 0, .int (nI t)]) rfl rfl rfl rfl ?_
    refine ax_s (pc' := 17) (st' := [.int 60, .int 0, .int (nI t)]) rfl rfl rfl rfl ?_
    refine ax_call (vs := [.int (nI t), .int 0, .int 60]) (rr := []) rfl rfl rfl ?_
    refine ct_isOutside ?_
    show am_ex (d + 8) 82 20 [some (.ref 5), some (.int (nI t))] [.int (bI (decide ((nI t) < 0 ∨ 60 < (nI t))))] (am_hh X S L) _
    refine ax_pF rfl (fun c2 => ?_) (fun c2 => ?_)
    · refine ax_s (pc' := 27) (st' := [.ref 5]) rfl rfl rfl rfl ?_
      refine ax_get rfl (hh_5 _ _ _) rfl rfl rfl ?_
      show am_ex (d + 8) 82 30 [some (.ref 5), some (.int (nI t))] [.ref 276] (am_hh X S L) _
      refine ax_s (pc' := 31) (st' := [.int (nI t), .ref 276]) rfl rfl rfl rfl ?_
      refine ax_call (vs := [.ref 276, .int (nI t)]) (rr := []) rfl rfl rfl ?_
      refine kt_goOn (K := t) rfl (Nat.lt_trans x1 (by decide)) hf hc9 hc0 ?_
      show am_ex (d + 8) 82 34 [some (.ref 5), some (.int (nI t))] [] (am_hh X (am_ovl S 29 (w_it rk0 g n t (am_sub S 20))) L) _
      refine ax_s (pc' := 35) (st' := [.ref 5]) rfl rfl rfl rfl ?_
      refine ax_get rfl (hh_5 _ _ _) rfl rfl rfl ?_
      show am_ex (d + 8) 82 38 [some (.ref 5), some (.int (nI t))] [.ref 29] (am_hh X (am_ovl S 29 (w_it rk0 g n t (am_sub S 20))) L) _
      refine ax_s (pc' := 39) (st' := [.ref 5, .ref 29]) rfl rfl rfl rfl ?_
      refine ax_get rfl (hh_5 _ _ _) rfl rfl rfl ?_
      show am_ex (d + 8) 82 42 [some (.ref 5), some (.int (nI t))] [.ref 29, .ref 29] (am_hh X (am_ovl S 29 (w_it rk0 g n t (am_sub S 20))) L) _
      refine ax_get rfl (hh_29 _ _ _) rfl rfl rfl ?_
      show am_ex (d + 8) 82 45 [some (.ref 5), some (.int (nI t))] [.int ((w_it rk0 g n t (am_sub S 20)) 0 2), .ref 29] (am_hh X (am_ovl S 29 (w_it rk0 g n t (am_sub S 20))) L) _
      refine ax_call (vs := [.ref 29, .int ((w_it rk0 g n t (am_sub S 20)) 0 2)]) (rr := []) rfl rfl rfl ?_
      refine kw (am_hh_ov isW29 X S L (w_it rk0 g n t (am_sub S 20))).symm (am_hh_ov isW29 X S L (w_it rk0 g n t (am_sub S 20))).symm.symm (fun _ => ct_leanWith (am_isW_k isW29 X S L) (wF_it rk0 t _ hf).1 (wF_it rk0 t _ hf).2.1 (wF_it rk0 t _ hf).2.2.1 (wF_it rk0 t _ hf).2.2.2) ?_
      show am_ex (d + 8) 82 48 [some (.ref 5), some (.int (nI t))] [.int (w_lean (w_it rk0 g n t (am_sub S 20)) g n ((w_it rk0 g n t (am_sub S 20)) 0 2))] (am_hh X (am_ovl S 29 (w_it rk0 g n t (am_sub S 20))) L) _
      refine ax_r rfl rfl rfl ?_
      exact k1
    · refine ax_s (pc' := 25) (st' := [.int (-1000001)]) rfl rfl rfl rfl ?_
      refine ax_r rfl rfl rfl ?_
      first | exact absurd (hg.2) c2 | exact absurd c2 (hg.2) | exact absurd (hg.2) (ne_true_of_eq_false c2)
  · refine ax_s (pc' := 12) (st' := [.int (-1000002)]) rfl rfl rfl rfl ?_
    refine ax_r rfl rfl rfl ?_
    first | exact absurd (hg.1) c1 | exact absurd c1 (hg.1) | exact absurd (hg.1) (ne_true_of_eq_false c1)
theorem wv_m_leans {d : Nat} {X : Nat × (Nat → Int32)} {S : Nat → Nat → Int32} {L : Nat → Int64} {g n : Nat} {W : Nat → Nat → Int32} {t : Nat} {Q : Option Value → am_H → Prop} (hR : mR W S 293 g n) (hK : JK S)  (hg : g_m_leans S (nI t)) (x1 : ∀ S1 : Nat → Nat → Int32, mR W S1 298 g n → F8 S S1 → t < 1000) (k1 : ∀ S1 : Nat → Nat → Int32, mR W S1 298 g n → F8 S S1 → ∀ S2 : Nat → Nat → Int32, mR (w_it rk0 g n t W) S2 298 g n → F8 S1 S2 → Q (some (.int (m_lean S2 298 g n (S2 298 1)))) (am_hh X S2 L)) : am_mt (d + 8) 197 [.ref 285, .int (nI t)] (am_hh X S L) Q := by
  refine ax_in (ls := [some (.ref 285), some (.int (nI t))]) rfl ?_
  refine ax_s (pc' := 1) (st' := [.ref 285]) rfl rfl rfl rfl ?_
  refine ax_call (vs := [.ref 285]) (rr := []) rfl rfl rfl ?_
  refine mt_isNone  ?_
  show am_ex (d + 8) 197 4 [some (.ref 285), some (.int (nI t))] [.int (bI (decide ((S 285 8) = 0)))] (am_hh X S L) _
  refine ax_pF rfl (fun c1 => ?_) (fun c1 => ?_)
  · refine ax_s (pc' := 11) (st' := [.int (nI t)]) rfl rfl rfl rfl ?_
    refine ax_s (pc' := 12) (st' := [.int 0, .int (nI t)]) rfl rfl rfl rfl ?_
    refine ax_s (pc' := 14) (st' := [.int 60, .int 0, .int (nI t)]) rfl rfl rfl rfl ?_
    refine ax_call (vs := [.int (nI t), .int 0, .int 60]) (rr := []) rfl rfl rfl ?_
    refine mt_in ?_
    show am_ex (d + 8) 197 17 [some (.ref 285), some (.int (nI t))] [.int (bI (decide (¬ (nI t) < 0 ∧ ¬ 60 < (nI t))))] (am_hh X S L) _
    refine ax_pT rfl (fun c2 => ?_) (fun c2 => ?_)
    · refine ax_s (pc' := 24) (st' := [.ref 285]) rfl rfl rfl rfl ?_
      refine ax_call (vs := [.ref 285]) (rr := []) rfl rfl rfl ?_
      refine mt_asItIs' (F8_m F8_r hR) (fun S1 hm1 hf1 => ?_)
      show am_ex (d + 8) 197 27 [some (.ref 285), some (.int (nI t))] [] (am_hh X S1 L) _
      refine ax_s (pc' := 28) (st' := [.ref 285]) rfl rfl rfl rfl ?_
      refine ax_s (pc' := 29) (st' := [.int (nI t), .ref 285]) rfl rfl rfl rfl ?_
      refine ax_call (vs := [.ref 285, .int (nI t)]) (rr := []) rfl rfl rfl ?_
      refine mt_goes (K := t) rfl (Nat.lt_trans (x1 S1 hm1 hf1) (by decide)) (F8_K (F8_t F8_r hf1) hK) hm1 (fun S2 hm2 hf2 => ?_)
      show am_ex (d + 8) 197 32 [some (.ref 285), some (.int (nI t))] [.int (w_sn rk0 g n t W 0)] (am_hh X S2 L) _
      refine ax_s (pc' := 33) (st' := []) rfl rfl rfl rfl ?_
      refine ax_s (pc' := 34) (st' := [.ref 285]) rfl rfl rfl rfl ?_
      refine ax_s (pc' := 35) (st' := [.ref 285, .ref 285]) rfl rfl rfl rfl ?_
      refine ax_get rfl (hh_285 _ _ _) rfl rfl rfl ?_
      show am_ex (d + 8) 197 38 [some (.ref 285), some (.int (nI t))] [.ref 298, .ref 285] (am_hh X S2 L) _
      refine ax_s (pc' := 39) (st' := [.ref 285, .ref 298, .ref 285]) rfl rfl rfl rfl ?_
      refine ax_get rfl (hh_285 _ _ _) rfl rfl rfl ?_
      show am_ex (d + 8) 197 42 [some (.ref 285), some (.int (nI t))] [.ref 298, .ref 298, .ref 285] (am_hh X S2 L) _
      refine ax_s (pc' := 43) (st' := [.int 1, .ref 298, .ref 298, .ref 285]) rfl rfl rfl rfl ?_
      refine ax_ald (j := 1) (v := (S2 298 1)) rfl (hh_298 _ _ _) rfl rfl (by decide) (by decide) rfl ?_
      refine ax_call (vs := [.ref 285, .ref 298, .int (S2 298 1)]) (rr := []) rfl rfl rfl ?_
      refine mt_leanBy (mR_F hm2 (F8_K (F8_t (F8_t F8_r hf1) hf2) hK)).1.1 (mR_F hm2 (F8_K (F8_t (F8_t F8_r hf1) hf2) hK)).1.2 (mR_F hm2 (F8_K (F8_t (F8_t F8_r hf1) hf2) hK)).2.1.1 (mR_F hm2 (F8_K (F8_t (F8_t F8_r hf1) hf2) hK)).2.1.2.1 (mR_F hm2 (F8_K (F8_t (F8_t F8_r hf1) hf2) hK)).2.1.2.2 (Or.inr rfl) ?_
      show am_ex (d + 8) 197 47 [some (.ref 285), some (.int (nI t))] [.int (m_lean S2 298 g n (S2 298 1))] (am_hh X S2 L) _
      refine ax_r rfl rfl rfl ?_
      exact k1 S1 hm1 hf1 S2 hm2 hf2
    · refine ax_s (pc' := 22) (st' := [.int (-1000001)]) rfl rfl rfl rfl ?_
      refine ax_r rfl rfl rfl ?_
      first | exact absurd (hg.2) c2 | exact absurd c2 (hg.2) | exact absurd (hg.2) (ne_true_of_eq_false c2)
  · refine ax_s (pc' := 9) (st' := [.int (-1000002)]) rfl rfl rfl rfl ?_
    refine ax_r rfl rfl rfl ?_
    first | exact absurd (hg.1) c1 | exact absurd c1 (hg.1) | exact absurd (hg.1) (ne_true_of_eq_false c1)
def g_k_when (S : Nat → Nat → Int32) (p q : Int32) : Prop := (¬ p < 0 ∧ ¬ (S 20 4) ≤ p) ∧ (¬ (q < 1 ∨ 3 < q))
def eg_k_when (S : Nat → Nat → Int32) (p q : Int32) : Int32 := (if ¬ p < 0 ∧ ¬ (S 20 4) ≤ p then (if q < 1 ∨ 3 < q then (-1000001) else 0) else (-1000001))
theorem wg_k_when {d : Nat} {X : Nat × (Nat → Int32)} {S : Nat → Nat → Int32} {L : Nat → Int64} {p q : Int32} {Q : Option Value → am_H → Prop}  (hb : ¬ g_k_when S p q) (hQ : Q (some (.int (eg_k_when S p q))) (am_hh X S L)) : am_mt (d + 8) 83 [.ref 5, .int p, .int q] (am_hh X S L) Q := by
  refine ax_in (ls := [some (.ref 5), some (.int p), some (.int q)]) rfl ?_
  refine ax_s (pc' := 1) (st' := [.ref 5]) rfl rfl rfl rfl ?_
  refine ax_get rfl (hh_5 _ _ _) rfl rfl rfl ?_
  show am_ex (d + 8) 83 4 [some (.ref 5), some (.int p), some (.int q)] [.ref 20] (am_hh X S L) _
  refine ax_s (pc' := 5) (st' := [.int p, .ref 20]) rfl rfl rfl rfl ?_
  refine ax_call (vs := [.ref 20, .int p]) (rr := []) rfl rfl rfl ?_
  refine kw (am_hh_sub isW20 X S L) (am_hh_sub isW20 X S L).symm (fun _ => ct_hasParty (am_isW_k isW20 X S L)) ?_
  show am_ex (d + 8) 83 8 [some (.ref 5), some (.int p), some (.int q)] [.int (bI (decide (¬ p < 0 ∧ ¬ (S 20 4) ≤ p)))] (am_hh X S L) _
  refine ax_pF rfl (fun c1 => ?_) (fun c1 => ?_)
  · refine ax_s (pc' := 22) (st' := [.int (-1000001)]) rfl rfl rfl rfl ?_
    refine ax_r rfl rfl rfl ?_
    unfold eg_k_when at hQ
    rw [if_neg c1] at hQ
    exact hQ
  · refine ax_s (pc' := 12) (st' := [.int q]) rfl rfl rfl rfl ?_
    refine ax_s (pc' := 13) (st' := [.int 1, .int q]) rfl rfl rfl rfl ?_
    refine ax_s (pc' := 14) (st' := [.int 3, .int 1, .int q]) rfl rfl rfl rfl ?_
    refine ax_call (vs := [.int q, .int 1, .int 3]) (rr := []) rfl rfl rfl ?_
    refine ct_isOutside ?_
    show am_ex (d + 8) 83 17 [some (.ref 5), some (.int p), some (.int q)] [.int (bI (decide (q < 1 ∨ 3 < q)))] (am_hh X S L) _
    refine ax_pF rfl (fun c2 => ?_) (fun c2 => ?_)
    · exact absurd ⟨c1, c2⟩ hb
    · refine ax_s (pc' := 22) (st' := [.int (-1000001)]) rfl rfl rfl rfl ?_
      refine ax_r rfl rfl rfl ?_
      unfold eg_k_when at hQ
      rw [if_pos c1, if_pos c2] at hQ
      exact hQ
def g_m_when (S : Nat → Nat → Int32) (p q : Int32) : Prop := (¬ p < 0 ∧ ¬ (S 285 7) - 1 < p) ∧ (¬ q < 1 ∧ ¬ 3 < q)
def eg_m_when (S : Nat → Nat → Int32) (p q : Int32) : Int32 := (if ¬ p < 0 ∧ ¬ (S 285 7) - 1 < p then (if ¬ q < 1 ∧ ¬ 3 < q then 0 else (-1000001)) else (-1000001))
theorem wg_m_when {d : Nat} {X : Nat × (Nat → Int32)} {S : Nat → Nat → Int32} {L : Nat → Int64} {p q : Int32} {Q : Option Value → am_H → Prop}  (hb : ¬ g_m_when S p q) (hQ : Q (some (.int (eg_m_when S p q))) (am_hh X S L)) : am_mt (d + 8) 198 [.ref 285, .int p, .int q] (am_hh X S L) Q := by
  refine ax_in (ls := [some (.ref 285), some (.int p), some (.int q), none]) rfl ?_
  refine ax_s (pc' := 1) (st' := [.ref 285]) rfl rfl rfl rfl ?_
  refine ax_s (pc' := 2) (st' := [.int p, .ref 285]) rfl rfl rfl rfl ?_
  refine ax_call (vs := [.ref 285, .int p]) (rr := []) rfl rfl rfl ?_
  refine mt_isParty  ?_
  show am_ex (d + 8) 198 5 [some (.ref 285), some (.int p), some (.int q), none] [.int (bI (decide (¬ p < 0 ∧ ¬ (S 285 7) - 1 < p)))] (am_hh X S L) _
  refine ax_pF rfl (fun c1 => ?_) (fun c1 => ?_)
  · refine ax_s (pc' := 19) (st' := [.int (-1000001)]) rfl rfl rfl rfl ?_
    refine ax_r rfl rfl rfl ?_
    unfold eg_m_when at hQ
    rw [if_neg c1] at hQ
    exact hQ
  · refine ax_s (pc' := 9) (st' := [.int q]) rfl rfl rfl rfl ?_
    refine ax_s (pc' := 10) (st' := [.int 1, .int q]) rfl rfl rfl rfl ?_
    refine ax_s (pc' := 11) (st' := [.int 3, .int 1, .int q]) rfl rfl rfl rfl ?_
    refine ax_call (vs := [.int q, .int 1, .int 3]) (rr := []) rfl rfl rfl ?_
    refine mt_in ?_
    show am_ex (d + 8) 198 14 [some (.ref 285), some (.int p), some (.int q), none] [.int (bI (decide (¬ q < 1 ∧ ¬ 3 < q)))] (am_hh X S L) _
    refine ax_pT rfl (fun c2 => ?_) (fun c2 => ?_)
    · exact absurd ⟨c1, c2⟩ hb
    · refine ax_s (pc' := 19) (st' := [.int (-1000001)]) rfl rfl rfl rfl ?_
      refine ax_r rfl rfl rfl ?_
      unfold eg_m_when at hQ
      rw [if_pos c1, if_neg c2] at hQ
      exact hQ
theorem wv_k_when {d : Nat} {X : Nat × (Nat → Int32)} {S : Nat → Nat → Int32} {L : Nat → Int64} {g n : Nat} {j : Nat} {q : Int32} {Q : Option Value → am_H → Prop} (hf : wF (am_sub S 20) g n) (hc9 : w_cl (am_sub S 29)) (hc0 : w_cl (am_sub S 20))  (hg : g_k_when S (nI j) q) (x1 : j < 6) (k1 : ∀ W1 : Nat → Nat → Int32, w_cl W1 → Q (some (.int (w_when g n q j 61 0 (am_sub S 20)))) (am_hh X (am_ovl S 29 W1) L)) : am_mt (d + 8) 83 [.ref 5, .int (nI j), .int q] (am_hh X S L) Q := by
  refine ax_in (ls := [some (.ref 5), some (.int (nI j)), some (.int q)]) rfl ?_
  refine ax_s (pc' := 1) (st' := [.ref 5]) rfl rfl rfl rfl ?_
  refine ax_get rfl (hh_5 _ _ _) rfl rfl rfl ?_
  show am_ex (d + 8) 83 4 [some (.ref 5), some (.int (nI j)), some (.int q)] [.ref 20] (am_hh X S L) _
  refine ax_s (pc' := 5) (st' := [.int (nI j), .ref 20]) rfl rfl rfl rfl ?_
  refine ax_call (vs := [.ref 20, .int (nI j)]) (rr := []) rfl rfl rfl ?_
  refine kw (am_hh_sub isW20 X S L) (am_hh_sub isW20 X S L).symm (fun _ => ct_hasParty (am_isW_k isW20 X S L)) ?_
  show am_ex (d + 8) 83 8 [some (.ref 5), some (.int (nI j)), some (.int q)] [.int (bI (decide (¬ (nI j) < 0 ∧ ¬ (S 20 4) ≤ (nI j))))] (am_hh X S L) _
  refine ax_pF rfl (fun c1 => ?_) (fun c1 => ?_)
  · refine ax_s (pc' := 22) (st' := [.int (-1000001)]) rfl rfl rfl rfl ?_
    refine ax_r rfl rfl rfl ?_
    first | exact absurd (hg.1) c1 | exact absurd c1 (hg.1) | exact absurd (hg.1) (ne_true_of_eq_false c1)
  · refine ax_s (pc' := 12) (st' := [.int q]) rfl rfl rfl rfl ?_
    refine ax_s (pc' := 13) (st' := [.int 1, .int q]) rfl rfl rfl rfl ?_
    refine ax_s (pc' := 14) (st' := [.int 3, .int 1, .int q]) rfl rfl rfl rfl ?_
    refine ax_call (vs := [.int q, .int 1, .int 3]) (rr := []) rfl rfl rfl ?_
    refine ct_isOutside ?_
    show am_ex (d + 8) 83 17 [some (.ref 5), some (.int (nI j)), some (.int q)] [.int (bI (decide (q < 1 ∨ 3 < q)))] (am_hh X S L) _
    refine ax_pF rfl (fun c2 => ?_) (fun c2 => ?_)
    · refine ax_s (pc' := 24) (st' := [.ref 5]) rfl rfl rfl rfl ?_
      refine ax_get rfl (hh_5 _ _ _) rfl rfl rfl ?_
      show am_ex (d + 8) 83 27 [some (.ref 5), some (.int (nI j)), some (.int q)] [.ref 276] (am_hh X S L) _
      refine ax_s (pc' := 28) (st' := [.int (nI j), .ref 276]) rfl rfl rfl rfl ?_
      refine ax_s (pc' := 29) (st' := [.int q, .int (nI j), .ref 276]) rfl rfl rfl rfl ?_
      refine ax_call (vs := [.ref 276, .int (nI j), .int q]) (rr := []) rfl rfl rfl ?_
      refine kt_whenIs x1 hf hc9 hc0 (fun W1 hw1 => ?_)
      show am_ex (d + 8) 83 32 [some (.ref 5), some (.int (nI j)), some (.int q)] [.int (w_when g n q j 61 0 (am_sub S 20))] (am_hh X (am_ovl S 29 W1) L) _
      refine ax_r rfl rfl rfl ?_
      exact k1 W1 hw1
    · refine ax_s (pc' := 22) (st' := [.int (-1000001)]) rfl rfl rfl rfl ?_
      refine ax_r rfl rfl rfl ?_
      first | exact absurd (hg.2) c2 | exact absurd c2 (hg.2) | exact absurd (hg.2) (ne_true_of_eq_false c2)
theorem wv_m_when {d : Nat} {X : Nat × (Nat → Int32)} {S : Nat → Nat → Int32} {L : Nat → Int64} {g n : Nat} {W : Nat → Nat → Int32} {j : Nat} {q : Int32} {Q : Option Value → am_H → Prop} (hR : mR W S 293 g n) (hK : JK S)  (hg : g_m_when S (nI j) q) (k1 : ∀ S1 : Nat → Nat → Int32, mR W S1 298 g n → F8 S S1 → am_ex (d + 8) 198 26 [some (.ref 285), some (.int (nI j)), some (.int q), some (.int 0)] [] (am_hh X S1 L) Q) : am_mt (d + 8) 198 [.ref 285, .int (nI j), .int q] (am_hh X S L) Q := by
  refine ax_in (ls := [some (.ref 285), some (.int (nI j)), some (.int q), none]) rfl ?_
  refine ax_s (pc' := 1) (st' := [.ref 285]) rfl rfl rfl rfl ?_
  refine ax_s (pc' := 2) (st' := [.int (nI j), .ref 285]) rfl rfl rfl rfl ?_
  refine ax_call (vs := [.ref 285, .int (nI j)]) (rr := []) rfl rfl rfl ?_
  refine mt_isParty  ?_
  show am_ex (d + 8) 198 5 [some (.ref 285), some (.int (nI j)), some (.int q), none] [.int (bI (decide (¬ (nI j) < 0 ∧ ¬ (S 285 7) - 1 < (nI j))))] (am_hh X S L) _
  refine ax_pF rfl (fun c1 => ?_) (fun c1 => ?_)
  · refine ax_s (pc' := 19) (st' := [.int (-1000001)]) rfl rfl rfl rfl ?_
    refine ax_r rfl rfl rfl ?_
    first | exact absurd (hg.1) c1 | exact absurd c1 (hg.1) | exact absurd (hg.1) (ne_true_of_eq_false c1)
  · refine ax_s (pc' := 9) (st' := [.int q]) rfl rfl rfl rfl ?_
    refine ax_s (pc' := 10) (st' := [.int 1, .int q]) rfl rfl rfl rfl ?_
    refine ax_s (pc' := 11) (st' := [.int 3, .int 1, .int q]) rfl rfl rfl rfl ?_
    refine ax_call (vs := [.int q, .int 1, .int 3]) (rr := []) rfl rfl rfl ?_
    refine mt_in ?_
    show am_ex (d + 8) 198 14 [some (.ref 285), some (.int (nI j)), some (.int q), none] [.int (bI (decide (¬ q < 1 ∧ ¬ 3 < q)))] (am_hh X S L) _
    refine ax_pT rfl (fun c2 => ?_) (fun c2 => ?_)
    · refine ax_s (pc' := 21) (st' := [.ref 285]) rfl rfl rfl rfl ?_
      refine ax_call (vs := [.ref 285]) (rr := []) rfl rfl rfl ?_
      refine mt_asItIs' (F8_m F8_r hR) (fun S1 hm1 hf1 => ?_)
      show am_ex (d + 8) 198 24 [some (.ref 285), some (.int (nI j)), some (.int q), none] [] (am_hh X S1 L) _
      refine ax_s (pc' := 25) (st' := [.int 0]) rfl rfl rfl rfl ?_
      refine ax_s (pc' := 26) (ls' := [some (.ref 285), some (.int (nI j)), some (.int q), some (.int 0)]) (st' := []) rfl rfl rfl rfl ?_
      exact k1 S1 hm1 hf1
    · refine ax_s (pc' := 19) (st' := [.int (-1000001)]) rfl rfl rfl rfl ?_
      refine ax_r rfl rfl rfl ?_
      first | exact absurd (hg.2) c2 | exact absurd c2 (hg.2) | exact absurd (hg.2) (ne_true_of_eq_false c2)
theorem wl_m_when {d : Nat} {X : Nat × (Nat → Int32)} {S : Nat → Nat → Int32} {L : Nat → Int64} {g n : Nat} {W : Nat → Nat → Int32} {V S1 : Nat → Nat → Int32} {j k : Nat} {q : Int32} {Q : Option Value → am_H → Prop} (hR : mR W S 293 g n) (hK : JK S) (hm1 : mR V S1 298 g n) (hf1 : F8 S S1)  (x1 : ¬ 60 < (nI k) → (15 + j) < 39) (k1 : 60 < (nI k) → Q (some (.int (-1000000))) (am_hh X S1 L)) (k2 : ¬ 60 < (nI k) → ¬ (S1 298 (15 + j)) = q → ∀ S3 : Nat → Nat → Int32, mR (w_it rk0 g n 1 V) S3 298 g n → F8 S1 S3 → am_ex (d + 8) 198 26 [some (.ref 285), some (.int (nI j)), some (.int q), some (.int (nI (k + 1)))] [] (am_hh X S3 L) Q) (k3 : ¬ 60 < (nI k) → (S1 298 (15 + j)) = q → Q (some (.int (nI k))) (am_hh X S1 L)) : am_ex (d + 8) 198 26 [some (.ref 285), some (.int (nI j)), some (.int q), some (.int (nI k))] [] (am_hh X S1 L) Q := by
  refine ax_s (pc' := 27) (st' := [.int (nI k)]) rfl rfl rfl rfl ?_
  refine ax_s (pc' := 29) (st' := [.int 60, .int (nI k)]) rfl rfl rfl rfl ?_
  refine ax_cmp_gt rfl (fun c1 => ?_) (fun c1 => ?_)
  · refine ax_s (pc' := 61) (st' := [.int (-1000000)]) rfl rfl rfl rfl ?_
    refine ax_r rfl rfl rfl ?_
    exact k1 c1
  · refine ax_s (pc' := 33) (st' := [.ref 285]) rfl rfl rfl rfl ?_
    refine ax_get rfl (hh_285 _ _ _) rfl rfl rfl ?_
    show am_ex (d + 8) 198 36 [some (.ref 285), some (.int (nI j)), some (.int q), some (.int (nI k))] [.ref 298] (am_hh X S1 L) _
    refine ax_s (pc' := 38) (st' := [.int 15, .ref 298]) rfl rfl rfl rfl ?_
    refine ax_s (pc' := 39) (st' := [.int (nI j), .int 15, .ref 298]) rfl rfl rfl rfl ?_
    refine ax_s (pc' := 40) (st' := [.int (15 + (nI j)), .ref 298]) rfl rfl rfl rfl ?_
    refine ax_ald (j := (15 + j)) (v := (S1 298 (15 + j))) rfl (hh_298 _ _ _) rfl (am_na (x := 15) (y := j) rfl rfl) (x1 c1) (by decide) rfl ?_
    refine ax_s (pc' := 42) (st' := [.int q, .int (S1 298 (15 + j))]) rfl rfl rfl rfl ?_
    refine ax_cmp_ne rfl (fun c2 => ?_) (fun c2 => ?_)
    · refine ax_s (pc' := 48) (st' := [.ref 285]) rfl rfl rfl rfl ?_
      refine ax_s (pc' := 49) (st' := [.int 1, .ref 285]) rfl rfl rfl rfl ?_
      refine ax_call (vs := [.ref 285, .int 1]) (rr := []) rfl rfl rfl ?_
      refine mt_goes (K := 1) rfl (by decide) (F8_K hf1 hK) hm1 (fun S3 hm3 hf3 => ?_)
      show am_ex (d + 8) 198 52 [some (.ref 285), some (.int (nI j)), some (.int q), some (.int (nI k))] [.int (w_sn rk0 g n 1 V 0)] (am_hh X S3 L) _
      refine ax_s (pc' := 53) (st' := []) rfl rfl rfl rfl ?_
      refine ax_s (pc' := 56) (ls' := [some (.ref 285), some (.int (nI j)), some (.int q), some (.int ((nI k) + 1))]) (st' := []) rfl rfl rfl rfl ?_
      rw [nI_1]
      refine ax_s (pc' := 26) (st' := []) rfl rfl rfl rfl ?_
      exact k2 c1 c2 S3 hm3 hf3
    · refine ax_s (pc' := 46) (st' := [.int (nI k)]) rfl rfl rfl rfl ?_
      refine ax_r rfl rfl rfl ?_
      exact k3 c1 c2
def g_k_first (S : Nat → Nat → Int32) (p : Int32) : Prop := ¬ (S 20 4) ≤ 0 ∧ (¬ (p < 0 ∨ 1 < p))
def eg_k_first (S : Nat → Nat → Int32) (p : Int32) : Int32 := (if (S 20 4) ≤ 0 then (-1000002) else (if p < 0 ∨ 1 < p then (-1000001) else 0))
theorem wg_k_first {d : Nat} {X : Nat × (Nat → Int32)} {S : Nat → Nat → Int32} {L : Nat → Int64} {p : Int32} {Q : Option Value → am_H → Prop}  (hb : ¬ g_k_first S p) (hQ : Q (some (.int (eg_k_first S p))) (am_hh X S L)) : am_mt (d + 8) 85 [.ref 5, .int p] (am_hh X S L) Q := by
  refine ax_in (ls := [some (.ref 5), some (.int p)]) rfl ?_
  refine ax_s (pc' := 1) (st' := [.ref 5]) rfl rfl rfl rfl ?_
  refine ax_get rfl (hh_5 _ _ _) rfl rfl rfl ?_
  show am_ex (d + 8) 85 4 [some (.ref 5), some (.int p)] [.ref 20] (am_hh X S L) _
  refine ax_call (vs := [.ref 20]) (rr := []) rfl rfl rfl ?_
  refine kw (am_hh_sub isW20 X S L) (am_hh_sub isW20 X S L).symm (fun _ => ct_stands (am_isW_k isW20 X S L)) ?_
  show am_ex (d + 8) 85 7 [some (.ref 5), some (.int p)] [.int (bI (decide (¬ (S 20 4) ≤ 0)))] (am_hh X S L) _
  refine ax_qT rfl (fun c1 => ?_) (fun c1 => ?_)
  · refine ax_s (pc' := 14) (st' := [.int p]) rfl rfl rfl rfl ?_
    refine ax_s (pc' := 15) (st' := [.int 0, .int p]) rfl rfl rfl rfl ?_
    refine ax_s (pc' := 16) (st' := [.int 1, .int 0, .int p]) rfl rfl rfl rfl ?_
    refine ax_call (vs := [.int p, .int 0, .int 1]) (rr := []) rfl rfl rfl ?_
    refine ct_isOutside ?_
    show am_ex (d + 8) 85 19 [some (.ref 5), some (.int p)] [.int (bI (decide (p < 0 ∨ 1 < p)))] (am_hh X S L) _
    refine ax_pF rfl (fun c2 => ?_) (fun c2 => ?_)
    · exact absurd ⟨c1, c2⟩ hb
    · refine ax_s (pc' := 24) (st' := [.int (-1000001)]) rfl rfl rfl rfl ?_
      refine ax_r rfl rfl rfl ?_
      unfold eg_k_first at hQ
      rw [if_neg c1, if_pos c2] at hQ
      exact hQ
  · refine ax_s (pc' := 12) (st' := [.int (-1000002)]) rfl rfl rfl rfl ?_
    refine ax_r rfl rfl rfl ?_
    unfold eg_k_first at hQ
    rw [if_pos c1] at hQ
    exact hQ
def g_m_first (S : Nat → Nat → Int32) (p : Int32) : Prop := ¬ ((S 285 8) = 0) ∧ (¬ p < 0 ∧ ¬ 1 < p)
def eg_m_first (S : Nat → Nat → Int32) (p : Int32) : Int32 := (if (S 285 8) = 0 then (-1000002) else (if ¬ p < 0 ∧ ¬ 1 < p then 0 else (-1000001)))
theorem wg_m_first {d : Nat} {X : Nat × (Nat → Int32)} {S : Nat → Nat → Int32} {L : Nat → Int64} {p : Int32} {Q : Option Value → am_H → Prop}  (hb : ¬ g_m_first S p) (hQ : Q (some (.int (eg_m_first S p))) (am_hh X S L)) : am_mt (d + 8) 199 [.ref 285, .int p] (am_hh X S L) Q := by
  refine ax_in (ls := [some (.ref 285), some (.int p), none]) rfl ?_
  refine ax_s (pc' := 1) (st' := [.ref 285]) rfl rfl rfl rfl ?_
  refine ax_call (vs := [.ref 285]) (rr := []) rfl rfl rfl ?_
  refine mt_isNone  ?_
  show am_ex (d + 8) 199 4 [some (.ref 285), some (.int p), none] [.int (bI (decide ((S 285 8) = 0)))] (am_hh X S L) _
  refine ax_pF rfl (fun c1 => ?_) (fun c1 => ?_)
  · refine ax_s (pc' := 11) (st' := [.int p]) rfl rfl rfl rfl ?_
    refine ax_s (pc' := 12) (st' := [.int 0, .int p]) rfl rfl rfl rfl ?_
    refine ax_s (pc' := 13) (st' := [.int 1, .int 0, .int p]) rfl rfl rfl rfl ?_
    refine ax_call (vs := [.int p, .int 0, .int 1]) (rr := []) rfl rfl rfl ?_
    refine mt_in ?_
    show am_ex (d + 8) 199 16 [some (.ref 285), some (.int p), none] [.int (bI (decide (¬ p < 0 ∧ ¬ 1 < p)))] (am_hh X S L) _
    refine ax_pT rfl (fun c2 => ?_) (fun c2 => ?_)
    · exact absurd ⟨c1, c2⟩ hb
    · refine ax_s (pc' := 21) (st' := [.int (-1000001)]) rfl rfl rfl rfl ?_
      refine ax_r rfl rfl rfl ?_
      unfold eg_m_first at hQ
      rw [if_neg c1, if_neg c2] at hQ
      exact hQ
  · refine ax_s (pc' := 9) (st' := [.int (-1000002)]) rfl rfl rfl rfl ?_
    refine ax_r rfl rfl rfl ?_
    unfold eg_m_first at hQ
    rw [if_pos c1] at hQ
    exact hQ
theorem wv_k_first {d : Nat} {X : Nat × (Nat → Int32)} {S : Nat → Nat → Int32} {L : Nat → Int64} {g n : Nat} {p : Int32} {Q : Option Value → am_H → Prop} (hf : wF (am_sub S 20) g n) (hc9 : w_cl (am_sub S 29)) (hc0 : w_cl (am_sub S 20))  (hg : g_k_first S p) (k1 : ¬ p = 0 → ∀ W2 : Nat → Nat → Int32, w_cl W2 → Q (some (.int (w_wo g n 61 0 (am_sub S 20)))) (am_hh X (am_ovl S 29 W2) L)) (k2 : p = 0 → ∀ W3 : Nat → Nat → Int32, w_cl W3 → Q (some (.int (w_fs g n 60 1 (am_sub S 20)))) (am_hh X (am_ovl S 29 W3) L)) : am_mt (d + 8) 85 [.ref 5, .int p] (am_hh X S L) Q := by
  refine ax_in (ls := [some (.ref 5), some (.int p)]) rfl ?_
  refine ax_s (pc' := 1) (st' := [.ref 5]) rfl rfl rfl rfl ?_
  refine ax_get rfl (hh_5 _ _ _) rfl rfl rfl ?_
  show am_ex (d + 8) 85 4 [some (.ref 5), some (.int p)] [.ref 20] (am_hh X S L) _
  refine ax_call (vs := [.ref 20]) (rr := []) rfl rfl rfl ?_
  refine kw (am_hh_sub isW20 X S L) (am_hh_sub isW20 X S L).symm (fun _ => ct_stands (am_isW_k isW20 X S L)) ?_
  show am_ex (d + 8) 85 7 [some (.ref 5), some (.int p)] [.int (bI (decide (¬ (S 20 4) ≤ 0)))] (am_hh X S L) _
  refine ax_qT rfl (fun c1 => ?_) (fun c1 => ?_)
  · refine ax_s (pc' := 14) (st' := [.int p]) rfl rfl rfl rfl ?_
    refine ax_s (pc' := 15) (st' := [.int 0, .int p]) rfl rfl rfl rfl ?_
    refine ax_s (pc' := 16) (st' := [.int 1, .int 0, .int p]) rfl rfl rfl rfl ?_
    refine ax_call (vs := [.int p, .int 0, .int 1]) (rr := []) rfl rfl rfl ?_
    refine ct_isOutside ?_
    show am_ex (d + 8) 85 19 [some (.ref 5), some (.int p)] [.int (bI (decide (p < 0 ∨ 1 < p)))] (am_hh X S L) _
    refine ax_pF rfl (fun c2 => ?_) (fun c2 => ?_)
    · refine ax_s (pc' := 26) (st' := [.int p]) rfl rfl rfl rfl ?_
      refine ax_if_ne rfl (fun c1 => ?_) (fun c1 => ?_)
      · refine ax_s (pc' := 40) (st' := [.ref 5]) rfl rfl rfl rfl ?_
        refine ax_get rfl (hh_5 _ _ _) rfl rfl rfl ?_
        show am_ex (d + 8) 85 43 [some (.ref 5), some (.int p)] [.ref 276] (am_hh X S L) _
        refine ax_call (vs := [.ref 276]) (rr := []) rfl rfl rfl ?_
        refine kt_whenOver hf hc9 hc0 (fun W2 hw2 => ?_)
        show am_ex (d + 8) 85 46 [some (.ref 5), some (.int p)] [.int (w_wo g n 61 0 (am_sub S 20))] (am_hh X (am_ovl S 29 W2) L) _
        refine ax_r rfl rfl rfl ?_
        exact k1 c1 W2 hw2
      · refine ax_s (pc' := 30) (st' := [.ref 5]) rfl rfl rfl rfl ?_
        refine ax_get rfl (hh_5 _ _ _) rfl rfl rfl ?_
        show am_ex (d + 8) 85 33 [some (.ref 5), some (.int p)] [.ref 276] (am_hh X S L) _
        refine ax_call (vs := [.ref 276]) (rr := []) rfl rfl rfl ?_
        refine kt_firstStuck hf hc9 hc0 (fun W3 hw3 => ?_)
        show am_ex (d + 8) 85 36 [some (.ref 5), some (.int p)] [.int (w_fs g n 60 1 (am_sub S 20))] (am_hh X (am_ovl S 29 W3) L) _
        refine ax_s (pc' := 46) (st' := [.int (w_fs g n 60 1 (am_sub S 20))]) rfl rfl rfl rfl ?_
        refine ax_r rfl rfl rfl ?_
        exact k2 c1 W3 hw3
    · refine ax_s (pc' := 24) (st' := [.int (-1000001)]) rfl rfl rfl rfl ?_
      refine ax_r rfl rfl rfl ?_
      first | exact absurd (hg.2) c2 | exact absurd c2 (hg.2) | exact absurd (hg.2) (ne_true_of_eq_false c2)
  · refine ax_s (pc' := 12) (st' := [.int (-1000002)]) rfl rfl rfl rfl ?_
    refine ax_r rfl rfl rfl ?_
    first | exact absurd (hg.1) c1 | exact absurd c1 (hg.1) | exact absurd (hg.1) (ne_true_of_eq_false c1)
theorem wv_m_first {d : Nat} {X : Nat × (Nat → Int32)} {S : Nat → Nat → Int32} {L : Nat → Int64} {g n : Nat} {W : Nat → Nat → Int32} {p : Int32} {Q : Option Value → am_H → Prop} (hR : mR W S 293 g n) (hK : JK S)  (hg : g_m_first S p) (k1 : ∀ S1 : Nat → Nat → Int32, mR W S1 298 g n → F8 S S1 → am_ex (d + 8) 199 28 [some (.ref 285), some (.int p), some (.int 0)] [] (am_hh X S1 L) Q) : am_mt (d + 8) 199 [.ref 285, .int p] (am_hh X S L) Q := by
  refine ax_in (ls := [some (.ref 285), some (.int p), none]) rfl ?_
  refine ax_s (pc' := 1) (st' := [.ref 285]) rfl rfl rfl rfl ?_
  refine ax_call (vs := [.ref 285]) (rr := []) rfl rfl rfl ?_
  refine mt_isNone  ?_
  show am_ex (d + 8) 199 4 [some (.ref 285), some (.int p), none] [.int (bI (decide ((S 285 8) = 0)))] (am_hh X S L) _
  refine ax_pF rfl (fun c1 => ?_) (fun c1 => ?_)
  · refine ax_s (pc' := 11) (st' := [.int p]) rfl rfl rfl rfl ?_
    refine ax_s (pc' := 12) (st' := [.int 0, .int p]) rfl rfl rfl rfl ?_
    refine ax_s (pc' := 13) (st' := [.int 1, .int 0, .int p]) rfl rfl rfl rfl ?_
    refine ax_call (vs := [.int p, .int 0, .int 1]) (rr := []) rfl rfl rfl ?_
    refine mt_in ?_
    show am_ex (d + 8) 199 16 [some (.ref 285), some (.int p), none] [.int (bI (decide (¬ p < 0 ∧ ¬ 1 < p)))] (am_hh X S L) _
    refine ax_pT rfl (fun c2 => ?_) (fun c2 => ?_)
    · refine ax_s (pc' := 23) (st' := [.ref 285]) rfl rfl rfl rfl ?_
      refine ax_call (vs := [.ref 285]) (rr := []) rfl rfl rfl ?_
      refine mt_asItIs' (F8_m F8_r hR) (fun S1 hm1 hf1 => ?_)
      show am_ex (d + 8) 199 26 [some (.ref 285), some (.int p), none] [] (am_hh X S1 L) _
      refine ax_s (pc' := 27) (st' := [.int 0]) rfl rfl rfl rfl ?_
      refine ax_s (pc' := 28) (ls' := [some (.ref 285), some (.int p), some (.int 0)]) (st' := []) rfl rfl rfl rfl ?_
      exact k1 S1 hm1 hf1
    · refine ax_s (pc' := 21) (st' := [.int (-1000001)]) rfl rfl rfl rfl ?_
      refine ax_r rfl rfl rfl ?_
      first | exact absurd (hg.2) c2 | exact absurd c2 (hg.2) | exact absurd (hg.2) (ne_true_of_eq_false c2)
  · refine ax_s (pc' := 9) (st' := [.int (-1000002)]) rfl rfl rfl rfl ?_
    refine ax_r rfl rfl rfl ?_
    first | exact absurd (hg.1) c1 | exact absurd c1 (hg.1) | exact absurd (hg.1) (ne_true_of_eq_false c1)
theorem wl_m_first {d : Nat} {X : Nat × (Nat → Int32)} {S : Nat → Nat → Int32} {L : Nat → Int64} {g n : Nat} {W : Nat → Nat → Int32} {V S1 : Nat → Nat → Int32} {k : Nat} {p : Int32} {Q : Option Value → am_H → Prop} (hR : mR W S 293 g n) (hK : JK S) (hm1 : mR V S1 298 g n) (hf1 : F8 S S1)  (k1 : 60 < (nI k) → Q (some (.int (-1000000))) (am_hh X S1 L)) (k2 : ¬ 60 < (nI k) → ¬ p = 1 → ∀ S3 : Nat → Nat → Int32, mR (w_it rk0 g n 1 V) S3 298 g n → F8 S1 S3 → ¬ (w_sn rk0 g n 1 V 0) = 1 → am_ex (d + 8) 199 28 [some (.ref 285), some (.int p), some (.int (nI (k + 1)))] [] (am_hh X S3 L) Q) (k3 : ¬ 60 < (nI k) → ¬ p = 1 → ∀ S3 : Nat → Nat → Int32, mR (w_it rk0 g n 1 V) S3 298 g n → F8 S1 S3 → (w_sn rk0 g n 1 V 0) = 1 → ¬ p = 0 → am_ex (d + 8) 199 28 [some (.ref 285), some (.int p), some (.int (nI (k + 1)))] [] (am_hh X S3 L) Q) (k4 : ¬ 60 < (nI k) → ¬ p = 1 → ∀ S3 : Nat → Nat → Int32, mR (w_it rk0 g n 1 V) S3 298 g n → F8 S1 S3 → (w_sn rk0 g n 1 V 0) = 1 → p = 0 → 60 ≤ (nI k) → am_ex (d + 8) 199 28 [some (.ref 285), some (.int p), some (.int (nI (k + 1)))] [] (am_hh X S3 L) Q) (k5 : ¬ 60 < (nI k) → ¬ p = 1 → ∀ S3 : Nat → Nat → Int32, mR (w_it rk0 g n 1 V) S3 298 g n → F8 S1 S3 → (w_sn rk0 g n 1 V 0) = 1 → p = 0 → ¬ 60 ≤ (nI k) → Q (some (.int ((nI k) + 1))) (am_hh X S3 L)) (k6 : ¬ 60 < (nI k) → p = 1 → ¬ ((m_th S1 298 0 n 0 0) ||| (m_th S1 298 1 n 0 0)) = 0 → ∀ S8 : Nat → Nat → Int32, mR (w_it rk0 g n 1 V) S8 298 g n → F8 S1 S8 → ¬ (w_sn rk0 g n 1 V 0) = 1 → am_ex (d + 8) 199 28 [some (.ref 285), some (.int p), some (.int (nI (k + 1)))] [] (am_hh X S8 L) Q) (k7 : ¬ 60 < (nI k) → p = 1 → ¬ ((m_th S1 298 0 n 0 0) ||| (m_th S1 298 1 n 0 0)) = 0 → ∀ S8 : Nat → Nat → Int32, mR (w_it rk0 g n 1 V) S8 298 g n → F8 S1 S8 → (w_sn rk0 g n 1 V 0) = 1 → ¬ p = 0 → am_ex (d + 8) 199 28 [some (.ref 285), some (.int p), some (.int (nI (k + 1)))] [] (am_hh X S8 L) Q) (k8 : ¬ 60 < (nI k) → p = 1 → ¬ ((m_th S1 298 0 n 0 0) ||| (m_th S1 298 1 n 0 0)) = 0 → ∀ S8 : Nat → Nat → Int32, mR (w_it rk0 g n 1 V) S8 298 g n → F8 S1 S8 → (w_sn rk0 g n 1 V 0) = 1 → p = 0 → 60 ≤ (nI k) → am_ex (d + 8) 199 28 [some (.ref 285), some (.int p), some (.int (nI (k + 1)))] [] (am_hh X S8 L) Q) (k9 : ¬ 60 < (nI k) → p = 1 → ¬ ((m_th S1 298 0 n 0 0) ||| (m_th S1 298 1 n 0 0)) = 0 → ∀ S8 : Nat → Nat → Int32, mR (w_it rk0 g n 1 V) S8 298 g n → F8 S1 S8 → (w_sn rk0 g n 1 V 0) = 1 → p = 0 → ¬ 60 ≤ (nI k) → Q (some (.int ((nI k) + 1))) (am_hh X S8 L)) (k10 : ¬ 60 < (nI k) → p = 1 → ((m_th S1 298 0 n 0 0) ||| (m_th S1 298 1 n 0 0)) = 0 → Q (some (.int (nI k))) (am_hh X S1 L)) : am_ex (d + 8) 199 28 [some (.ref 285), some (.int p), some (.int (nI k))] [] (am_hh X S1 L) Q := by
  refine ax_s (pc' := 29) (st' := [.int (nI k)]) rfl rfl rfl rfl ?_
  refine ax_s (pc' := 31) (st' := [.int 60, .int (nI k)]) rfl rfl rfl rfl ?_
  refine ax_cmp_gt rfl (fun c1 => ?_) (fun c1 => ?_)
  · refine ax_s (pc' := 94) (st' := [.int (-1000000)]) rfl rfl rfl rfl ?_
    refine ax_r rfl rfl rfl ?_
    exact k1 c1
  · refine ax_s (pc' := 35) (st' := [.int p]) rfl rfl rfl rfl ?_
    refine ax_s (pc' := 36) (st' := [.int 1, .int p]) rfl rfl rfl rfl ?_
    refine ax_cmp_ne rfl (fun c2 => ?_) (fun c2 => ?_)
    · refine ax_s (pc' := 64) (st' := [.ref 285]) rfl rfl rfl rfl ?_
      refine ax_s (pc' := 65) (st' := [.int 1, .ref 285]) rfl rfl rfl rfl ?_
      refine ax_call (vs := [.ref 285, .int 1]) (rr := []) rfl rfl rfl ?_
      refine mt_goes (K := 1) rfl (by decide) (F8_K hf1 hK) hm1 (fun S3 hm3 hf3 => ?_)
      show am_ex (d + 8) 199 68 [some (.ref 285), some (.int p), some (.int (nI k))] [.int (w_sn rk0 g n 1 V 0)] (am_hh X S3 L) _
      refine ax_s (pc' := 69) (st' := [.int 1, .int (w_sn rk0 g n 1 V 0)]) rfl rfl rfl rfl ?_
      refine ax_cmp_ne rfl (fun c4 => ?_) (fun c4 => ?_)
      · refine ax_s (pc' := 89) (ls' := [some (.ref 285), some (.int p), some (.int ((nI k) + 1))]) (st' := []) rfl rfl rfl rfl ?_
        rw [nI_1]
        refine ax_s (pc' := 28) (st' := []) rfl rfl rfl rfl ?_
        exact k2 c1 c2 S3 hm3 hf3 c4
      · refine ax_s (pc' := 73) (st' := [.int p]) rfl rfl rfl rfl ?_
        refine ax_if_ne rfl (fun c5 => ?_) (fun c5 => ?_)
        · refine ax_s (pc' := 89) (ls' := [some (.ref 285), some (.int p), some (.int ((nI k) + 1))]) (st' := []) rfl rfl rfl rfl ?_
          rw [nI_1]
          refine ax_s (pc' := 28) (st' := []) rfl rfl rfl rfl ?_
          exact k3 c1 c2 S3 hm3 hf3 c4 c5
        · refine ax_s (pc' := 77) (st' := [.int (nI k)]) rfl rfl rfl rfl ?_
          refine ax_s (pc' := 79) (st' := [.int 60, .int (nI k)]) rfl rfl rfl rfl ?_
          refine ax_cmp_ge rfl (fun c6 => ?_) (fun c6 => ?_)
          · refine ax_s (pc' := 89) (ls' := [some (.ref 285), some (.int p), some (.int ((nI k) + 1))]) (st' := []) rfl rfl rfl rfl ?_
            rw [nI_1]
            refine ax_s (pc' := 28) (st' := []) rfl rfl rfl rfl ?_
            exact k4 c1 c2 S3 hm3 hf3 c4 c5 c6
          · refine ax_s (pc' := 83) (st' := [.int (nI k)]) rfl rfl rfl rfl ?_
            refine ax_s (pc' := 84) (st' := [.int 1, .int (nI k)]) rfl rfl rfl rfl ?_
            refine ax_s (pc' := 85) (st' := [.int ((nI k) + 1)]) rfl rfl rfl rfl ?_
            refine ax_r rfl rfl rfl ?_
            exact k5 c1 c2 S3 hm3 hf3 c4 c5 c6
    · refine ax_s (pc' := 40) (st' := [.ref 285]) rfl rfl rfl rfl ?_
      refine ax_s (pc' := 41) (st' := [.ref 285, .ref 285]) rfl rfl rfl rfl ?_
      refine ax_get rfl (hh_285 _ _ _) rfl rfl rfl ?_
      show am_ex (d + 8) 199 44 [some (.ref 285), some (.int p), some (.int (nI k))] [.ref 298, .ref 285] (am_hh X S1 L) _
      refine ax_s (pc' := 45) (st' := [.int 0, .ref 298, .ref 285]) rfl rfl rfl rfl ?_
      refine ax_call (vs := [.ref 285, .ref 298, .int 0]) (rr := []) rfl rfl rfl ?_
      refine mt_those (mR_F hm1 (F8_K hf1 hK)).1.1 (mR_F hm1 (F8_K hf1 hK)).1.2 (Or.inr rfl) ?_
      show am_ex (d + 8) 199 48 [some (.ref 285), some (.int p), some (.int (nI k))] [.int (m_th S1 298 0 n 0 0)] (am_hh X S1 L) _
      refine ax_s (pc' := 49) (st' := [.ref 285, .int (m_th S1 298 0 n 0 0)]) rfl rfl rfl rfl ?_
      refine ax_s (pc' := 50) (st' := [.ref 285, .ref 285, .int (m_th S1 298 0 n 0 0)]) rfl rfl rfl rfl ?_
      refine ax_get rfl (hh_285 _ _ _) rfl rfl rfl ?_
      show am_ex (d + 8) 199 53 [some (.ref 285), some (.int p), some (.int (nI k))] [.ref 298, .ref 285, .int (m_th S1 298 0 n 0 0)] (am_hh X S1 L) _
      refine ax_s (pc' := 54) (st' := [.int 1, .ref 298, .ref 285, .int (m_th S1 298 0 n 0 0)]) rfl rfl rfl rfl ?_
      refine ax_call (vs := [.ref 285, .ref 298, .int 1]) (rr := [.int (m_th S1 298 0 n 0 0)]) rfl rfl rfl ?_
      refine mt_those (mR_F hm1 (F8_K hf1 hK)).1.1 (mR_F hm1 (F8_K hf1 hK)).1.2 (Or.inr rfl) ?_
      show am_ex (d + 8) 199 57 [some (.ref 285), some (.int p), some (.int (nI k))] [.int (m_th S1 298 1 n 0 0), .int (m_th S1 298 0 n 0 0)] (am_hh X S1 L) _
      refine ax_s (pc' := 58) (st' := [.int ((m_th S1 298 0 n 0 0) ||| (m_th S1 298 1 n 0 0))]) rfl rfl rfl rfl ?_
      refine ax_if_ne rfl (fun c7 => ?_) (fun c7 => ?_)
      · refine ax_s (pc' := 64) (st' := [.ref 285]) rfl rfl rfl rfl ?_
        refine ax_s (pc' := 65) (st' := [.int 1, .ref 285]) rfl rfl rfl rfl ?_
        refine ax_call (vs := [.ref 285, .int 1]) (rr := []) rfl rfl rfl ?_
        refine mt_goes (K := 1) rfl (by decide) (F8_K hf1 hK) hm1 (fun S8 hm8 hf8 => ?_)
        show am_ex (d + 8) 199 68 [some (.ref 285), some (.int p), some (.int (nI k))] [.int (w_sn rk0 g n 1 V 0)] (am_hh X S8 L) _
        refine ax_s (pc' := 69) (st' := [.int 1, .int (w_sn rk0 g n 1 V 0)]) rfl rfl rfl rfl ?_
        refine ax_cmp_ne rfl (fun c9 => ?_) (fun c9 => ?_)
        · refine ax_s (pc' := 89) (ls' := [some (.ref 285), some (.int p), some (.int ((nI k) + 1))]) (st' := []) rfl rfl rfl rfl ?_
          rw [nI_1]
          refine ax_s (pc' := 28) (st' := []) rfl rfl rfl rfl ?_
          exact k6 c1 c2 c7 S8 hm8 hf8 c9
        · refine ax_s (pc' := 73) (st' := [.int p]) rfl rfl rfl rfl ?_
          refine ax_if_ne rfl (fun c10 => ?_) (fun c10 => ?_)
          · refine ax_s (pc' := 89) (ls' := [some (.ref 285), some (.int p), some (.int ((nI k) + 1))]) (st' := []) rfl rfl rfl rfl ?_
            rw [nI_1]
            refine ax_s (pc' := 28) (st' := []) rfl rfl rfl rfl ?_
            exact k7 c1 c2 c7 S8 hm8 hf8 c9 c10
          · refine ax_s (pc' := 77) (st' := [.int (nI k)]) rfl rfl rfl rfl ?_
            refine ax_s (pc' := 79) (st' := [.int 60, .int (nI k)]) rfl rfl rfl rfl ?_
            refine ax_cmp_ge rfl (fun c11 => ?_) (fun c11 => ?_)
            · refine ax_s (pc' := 89) (ls' := [some (.ref 285), some (.int p), some (.int ((nI k) + 1))]) (st' := []) rfl rfl rfl rfl ?_
              rw [nI_1]
              refine ax_s (pc' := 28) (st' := []) rfl rfl rfl rfl ?_
              exact k8 c1 c2 c7 S8 hm8 hf8 c9 c10 c11
            · refine ax_s (pc' := 83) (st' := [.int (nI k)]) rfl rfl rfl rfl ?_
              refine ax_s (pc' := 84) (st' := [.int 1, .int (nI k)]) rfl rfl rfl rfl ?_
              refine ax_s (pc' := 85) (st' := [.int ((nI k) + 1)]) rfl rfl rfl rfl ?_
              refine ax_r rfl rfl rfl ?_
              exact k9 c1 c2 c7 S8 hm8 hf8 c9 c10 c11
      · refine ax_s (pc' := 62) (st' := [.int (nI k)]) rfl rfl rfl rfl ?_
        refine ax_r rfl rfl rfl ?_
        exact k10 c1 c2 c7
