def g_k_drawn (S : Nat → Nat → Int32) (p q r : Int32) : Prop := ¬ (S 20 4) ≤ 0 ∧ (¬ (p < 0 ∨ 60 < p)) ∧ (¬ (q < 1 ∨ 999999 < q)) ∧ (¬ (r < 0 ∨ 1 < r))
def eg_k_drawn (S : Nat → Nat → Int32) (p q r : Int32) : Int32 := (if (S 20 4) ≤ 0 then (-1000002) else (if p < 0 ∨ 60 < p then (-1000001) else (if q < 1 ∨ 999999 < q then (-1000001) else (if r < 0 ∨ 1 < r then (-1000001) else 0))))
theorem wg_k_drawn {d : Nat} {X : Nat × (Nat → Int32)} {S : Nat → Nat → Int32} {L : Nat → Int64} {p q r : Int32} {Q : Option Value → am_H → Prop}  (hb : ¬ g_k_drawn S p q r) (hQ : Q (some (.int (eg_k_drawn S p q r))) (am_hh X S L)) : am_mt (d + 8) 124 [.ref 5, .int p, .int q, .int r] (am_hh X S L) Q := by
  refine ax_in (ls := [some (.ref 5), some (.int p), some (.int q), some (.int r), none]) rfl ?_
  refine ax_s (pc' := 1) (st' := [.ref 5]) rfl rfl rfl rfl ?_
  refine ax_get rfl (hh_5 _ _ _) rfl rfl rfl ?_
  show am_ex (d + 8) 124 4 [some (.ref 5), some (.int p), some (.int q), some (.int r), none] [.ref 20] (am_hh X S L) _
  refine ax_call (vs := [.ref 20]) (rr := []) rfl rfl rfl ?_
  refine kw (am_hh_sub isW20 X S L) (am_hh_sub isW20 X S L).symm (fun _ => ct_stands (am_isW_k isW20 X S L)) ?_
  show am_ex (d + 8) 124 7 [some (.ref 5), some (.int p), some (.int q), some (.int r), none] [.int (bI (decide (¬ (S 20 4) ≤ 0)))] (am_hh X S L) _
  refine ax_qT rfl (fun c1 => ?_) (fun c1 => ?_)
  · refine ax_s (pc' := 14) (st' := [.int p]) rfl rfl rfl rfl ?_
    refine ax_s (pc' := 15) (st' := [.int 0, .int p]) rfl rfl rfl rfl ?_
    refine ax_s (pc' := 17) (st' := [.int 60, .int 0, .int p]) rfl rfl rfl rfl ?_
    refine ax_call (vs := [.int p, .int 0, .int 60]) (rr := []) rfl rfl rfl ?_
    refine ct_isOutside ?_
    show am_ex (d + 8) 124 20 [some (.ref 5), some (.int p), some (.int q), some (.int r), none] [.int (bI (decide (p < 0 ∨ 60 < p)))] (am_hh X S L) _
    refine ax_pT rfl (fun c2 => ?_) (fun c2 => ?_)
    · refine ax_s (pc' := 45) (st' := [.int (-1000001)]) rfl rfl rfl rfl ?_
      refine ax_r rfl rfl rfl ?_
      unfold eg_k_drawn at hQ
      rw [if_neg c1, if_pos c2] at hQ
      exact hQ
    · refine ax_s (pc' := 24) (st' := [.int q]) rfl rfl rfl rfl ?_
      refine ax_s (pc' := 25) (st' := [.int 1, .int q]) rfl rfl rfl rfl ?_
      refine ax_s (pc' := 28) (st' := [.int 999999, .int 1, .int q]) rfl rfl rfl rfl ?_
      refine ax_call (vs := [.int q, .int 1, .int 999999]) (rr := []) rfl rfl rfl ?_
      refine ct_isOutside ?_
      show am_ex (d + 8) 124 31 [some (.ref 5), some (.int p), some (.int q), some (.int r), none] [.int (bI (decide (q < 1 ∨ 999999 < q)))] (am_hh X S L) _
      refine ax_pT rfl (fun c3 => ?_) (fun c3 => ?_)
      · refine ax_s (pc' := 45) (st' := [.int (-1000001)]) rfl rfl rfl rfl ?_
        refine ax_r rfl rfl rfl ?_
        unfold eg_k_drawn at hQ
        rw [if_neg c1, if_neg c2, if_pos c3] at hQ
        exact hQ
      · refine ax_s (pc' := 35) (st' := [.int r]) rfl rfl rfl rfl ?_
        refine ax_s (pc' := 36) (st' := [.int 0, .int r]) rfl rfl rfl rfl ?_
        refine ax_s (pc' := 37) (st' := [.int 1, .int 0, .int r]) rfl rfl rfl rfl ?_
        refine ax_call (vs := [.int r, .int 0, .int 1]) (rr := []) rfl rfl rfl ?_
        refine ct_isOutside ?_
        show am_ex (d + 8) 124 40 [some (.ref 5), some (.int p), some (.int q), some (.int r), none] [.int (bI (decide (r < 0 ∨ 1 < r)))] (am_hh X S L) _
        refine ax_pF rfl (fun c4 => ?_) (fun c4 => ?_)
        · exact absurd ⟨c1, c2, c3, c4⟩ hb
        · refine ax_s (pc' := 45) (st' := [.int (-1000001)]) rfl rfl rfl rfl ?_
          refine ax_r rfl rfl rfl ?_
          unfold eg_k_drawn at hQ
          rw [if_neg c1, if_neg c2, if_neg c3, if_pos c4] at hQ
          exact hQ
  · refine ax_s (pc' := 12) (st' := [.int (-1000002)]) rfl rfl rfl rfl ?_
    refine ax_r rfl rfl rfl ?_
    unfold eg_k_drawn at hQ
    rw [if_pos c1] at hQ
    exact hQ
def g_m_drawn (S : Nat → Nat → Int32) (p q r : Int32) : Prop := ¬ ((S 285 8) = 0) ∧ (¬ p < 0 ∧ ¬ 60 < p) ∧ (¬ q < 1 ∧ ¬ 999999 < q) ∧ (¬ r < 0 ∧ ¬ 1 < r)
def eg_m_drawn (S : Nat → Nat → Int32) (p q r : Int32) : Int32 := (if (S 285 8) = 0 then (-1000002) else (if ¬ p < 0 ∧ ¬ 60 < p then (if ¬ q < 1 ∧ ¬ 999999 < q then (if ¬ r < 0 ∧ ¬ 1 < r then 0 else (-1000001)) else (-1000001)) else (-1000001)))
theorem wg_m_drawn {d : Nat} {X : Nat × (Nat → Int32)} {S : Nat → Nat → Int32} {L : Nat → Int64} {p q r : Int32} {Q : Option Value → am_H → Prop}  (hb : ¬ g_m_drawn S p q r) (hQ : Q (some (.int (eg_m_drawn S p q r))) (am_hh X S L)) : am_mt (d + 8) 218 [.ref 285, .int p, .int q, .int r] (am_hh X S L) Q := by
  refine ax_in (ls := [some (.ref 285), some (.int p), some (.int q), some (.int r), none, none, none, none, none]) rfl ?_
  refine ax_s (pc' := 1) (st' := [.ref 285]) rfl rfl rfl rfl ?_
  refine ax_call (vs := [.ref 285]) (rr := []) rfl rfl rfl ?_
  refine mt_isNone  ?_
  show am_ex (d + 8) 218 4 [some (.ref 285), some (.int p), some (.int q), some (.int r), none, none, none, none, none] [.int (bI (decide ((S 285 8) = 0)))] (am_hh X S L) _
  refine ax_pF rfl (fun c1 => ?_) (fun c1 => ?_)
  · refine ax_s (pc' := 11) (st' := [.int p]) rfl rfl rfl rfl ?_
    refine ax_s (pc' := 12) (st' := [.int 0, .int p]) rfl rfl rfl rfl ?_
    refine ax_s (pc' := 14) (st' := [.int 60, .int 0, .int p]) rfl rfl rfl rfl ?_
    refine ax_call (vs := [.int p, .int 0, .int 60]) (rr := []) rfl rfl rfl ?_
    refine mt_in ?_
    show am_ex (d + 8) 218 17 [some (.ref 285), some (.int p), some (.int q), some (.int r), none, none, none, none, none] [.int (bI (decide (¬ p < 0 ∧ ¬ 60 < p)))] (am_hh X S L) _
    refine ax_pF rfl (fun c2 => ?_) (fun c2 => ?_)
    · refine ax_s (pc' := 42) (st' := [.int (-1000001)]) rfl rfl rfl rfl ?_
      refine ax_r rfl rfl rfl ?_
      unfold eg_m_drawn at hQ
      rw [if_neg c1, if_neg c2] at hQ
      exact hQ
    · refine ax_s (pc' := 21) (st' := [.int q]) rfl rfl rfl rfl ?_
      refine ax_s (pc' := 22) (st' := [.int 1, .int q]) rfl rfl rfl rfl ?_
      refine ax_s (pc' := 25) (st' := [.int 999999, .int 1, .int q]) rfl rfl rfl rfl ?_
      refine ax_call (vs := [.int q, .int 1, .int 999999]) (rr := []) rfl rfl rfl ?_
      refine mt_in ?_
      show am_ex (d + 8) 218 28 [some (.ref 285), some (.int p), some (.int q), some (.int r), none, none, none, none, none] [.int (bI (decide (¬ q < 1 ∧ ¬ 999999 < q)))] (am_hh X S L) _
      refine ax_pF rfl (fun c3 => ?_) (fun c3 => ?_)
      · refine ax_s (pc' := 42) (st' := [.int (-1000001)]) rfl rfl rfl rfl ?_
        refine ax_r rfl rfl rfl ?_
        unfold eg_m_drawn at hQ
        rw [if_neg c1, if_pos c2, if_neg c3] at hQ
        exact hQ
      · refine ax_s (pc' := 32) (st' := [.int r]) rfl rfl rfl rfl ?_
        refine ax_s (pc' := 33) (st' := [.int 0, .int r]) rfl rfl rfl rfl ?_
        refine ax_s (pc' := 34) (st' := [.int 1, .int 0, .int r]) rfl rfl rfl rfl ?_
        refine ax_call (vs := [.int r, .int 0, .int 1]) (rr := []) rfl rfl rfl ?_
        refine mt_in ?_
        show am_ex (d + 8) 218 37 [some (.ref 285), some (.int p), some (.int q), some (.int r), none, none, none, none, none] [.int (bI (decide (¬ r < 0 ∧ ¬ 1 < r)))] (am_hh X S L) _
        refine ax_pT rfl (fun c4 => ?_) (fun c4 => ?_)
        · exact absurd ⟨c1, c2, c3, c4⟩ hb
        · refine ax_s (pc' := 42) (st' := [.int (-1000001)]) rfl rfl rfl rfl ?_
          refine ax_r rfl rfl rfl ?_
          unfold eg_m_drawn at hQ
          rw [if_neg c1, if_pos c2, if_pos c3, if_neg c4] at hQ
          exact hQ
  · refine ax_s (pc' := 9) (st' := [.int (-1000002)]) rfl rfl rfl rfl ?_
    refine ax_r rfl rfl rfl ?_
    unfold eg_m_drawn at hQ
    rw [if_pos c1] at hQ
    exact hQ
theorem wv_k_drawn {d : Nat} {X : Nat × (Nat → Int32)} {S : Nat → Nat → Int32} {L : Nat → Int64} {g n : Nat} {t s : Nat} {r : Int32} {Q : Option Value → am_H → Prop} (hf : wF (am_sub S 20) g n) (hc9 : w_cl (am_sub S 29)) (hc0 : w_cl (am_sub S 20)) (hn1 : 1 ≤ n) (hg1 : 1 ≤ g) (hs : s < 2 ^ 31)  (hg : g_k_drawn S (nI t) (nI s) r) (x1 : t < 1000) (k1 : ¬ r = 0 → Q (some (.int (w_sum ((w_dr g n t s (am_sub S 20) 0).2 7) n 0 0))) (am_hh X (am_ovl S 29 (w_dr g n t s (am_sub S 20) 0).2) L)) (k2 : r = 0 → Q (some (.int (w_dr g n t s (am_sub S 20) 0).1)) (am_hh X (am_ovl S 29 (w_dr g n t s (am_sub S 20) 0).2) L)) : am_mt (d + 8) 124 [.ref 5, .int (nI t), .int (nI s), .int r] (am_hh X S L) Q := by
  refine ax_in (ls := [some (.ref 5), some (.int (nI t)), some (.int (nI s)), some (.int r), none]) rfl ?_
  refine ax_s (pc' := 1) (st' := [.ref 5]) rfl rfl rfl rfl ?_
  refine ax_get rfl (hh_5 _ _ _) rfl rfl rfl ?_
  show am_ex (d + 8) 124 4 [some (.ref 5), some (.int (nI t)), some (.int (nI s)), some (.int r), none] [.ref 20] (am_hh X S L) _
  refine ax_call (vs := [.ref 20]) (rr := []) rfl rfl rfl ?_
  refine kw (am_hh_sub isW20 X S L) (am_hh_sub isW20 X S L).symm (fun _ => ct_stands (am_isW_k isW20 X S L)) ?_
  show am_ex (d + 8) 124 7 [some (.ref 5), some (.int (nI t)), some (.int (nI s)), some (.int r), none] [.int (bI (decide (¬ (S 20 4) ≤ 0)))] (am_hh X S L) _
  refine ax_qT rfl (fun c1 => ?_) (fun c1 => ?_)
  · refine ax_s (pc' := 14) (st' := [.int (nI t)]) rfl rfl rfl rfl ?_
    refine ax_s (pc' := 15) (st' := [.int 0, .int (nI t)]) rfl rfl rfl rfl ?_
    refine ax_s (pc' := 17) (st' := [.int 60, .int 0, .int (nI t)]) rfl rfl rfl rfl ?_
    refine ax_call (vs := [.int (nI t), .int 0, .int 60]) (rr := []) rfl rfl rfl ?_
    refine ct_isOutside ?_
    show am_ex (d + 8) 124 20 [some (.ref 5), some (.int (nI t)), some (.int (nI s)), some (.int r), none] [.int (bI (decide ((nI t) < 0 ∨ 60 < (nI t))))] (am_hh X S L) _
    refine ax_pT rfl (fun c2 => ?_) (fun c2 => ?_)
    · refine ax_s (pc' := 45) (st' := [.int (-1000001)]) rfl rfl rfl rfl ?_
      refine ax_r rfl rfl rfl ?_
      first | exact absurd (hg.2.1) c2 | exact absurd c2 (hg.2.1) | exact absurd (hg.2.1) (ne_true_of_eq_false c2)
    · refine ax_s (pc' := 24) (st' := [.int (nI s)]) rfl rfl rfl rfl ?_
      refine ax_s (pc' := 25) (st' := [.int 1, .int (nI s)]) rfl rfl rfl rfl ?_
      refine ax_s (pc' := 28) (st' := [.int 999999, .int 1, .int (nI s)]) rfl rfl rfl rfl ?_
      refine ax_call (vs := [.int (nI s), .int 1, .int 999999]) (rr := []) rfl rfl rfl ?_
      refine ct_isOutside ?_
      show am_ex (d + 8) 124 31 [some (.ref 5), some (.int (nI t)), some (.int (nI s)), some (.int r), none] [.int (bI (decide ((nI s) < 1 ∨ 999999 < (nI s))))] (am_hh X S L) _
      refine ax_pT rfl (fun c3 => ?_) (fun c3 => ?_)
      · refine ax_s (pc' := 45) (st' := [.int (-1000001)]) rfl rfl rfl rfl ?_
        refine ax_r rfl rfl rfl ?_
        first | exact absurd (hg.2.2.1) c3 | exact absurd c3 (hg.2.2.1) | exact absurd (hg.2.2.1) (ne_true_of_eq_false c3)
      · refine ax_s (pc' := 35) (st' := [.int r]) rfl rfl rfl rfl ?_
        refine ax_s (pc' := 36) (st' := [.int 0, .int r]) rfl rfl rfl rfl ?_
        refine ax_s (pc' := 37) (st' := [.int 1, .int 0, .int r]) rfl rfl rfl rfl ?_
        refine ax_call (vs := [.int r, .int 0, .int 1]) (rr := []) rfl rfl rfl ?_
        refine ct_isOutside ?_
        show am_ex (d + 8) 124 40 [some (.ref 5), some (.int (nI t)), some (.int (nI s)), some (.int r), none] [.int (bI (decide (r < 0 ∨ 1 < r)))] (am_hh X S L) _
        refine ax_pF rfl (fun c4 => ?_) (fun c4 => ?_)
        · refine ax_s (pc' := 47) (st' := [.ref 5]) rfl rfl rfl rfl ?_
          refine ax_get rfl (hh_5 _ _ _) rfl rfl rfl ?_
          show am_ex (d + 8) 124 50 [some (.ref 5), some (.int (nI t)), some (.int (nI s)), some (.int r), none] [.ref 281] (am_hh X S L) _
          refine ax_s (pc' := 51) (st' := [.int (nI t), .ref 281]) rfl rfl rfl rfl ?_
          refine ax_s (pc' := 52) (st' := [.int (nI s), .int (nI t), .ref 281]) rfl rfl rfl rfl ?_
          refine ax_call (vs := [.ref 281, .int (nI t), .int (nI s)]) (rr := []) rfl rfl rfl ?_
          refine kt_days x1 hs hn1 hg1 hf hc9 hc0 ?_
          show am_ex (d + 8) 124 55 [some (.ref 5), some (.int (nI t)), some (.int (nI s)), some (.int r), none] [.int (w_dr g n t s (am_sub S 20) 0).1] (am_hh X (am_ovl S 29 (w_dr g n t s (am_sub S 20) 0).2) L) _
          refine ax_s (pc' := 57) (ls' := [some (.ref 5), some (.int (nI t)), some (.int (nI s)), some (.int r), some (.int (w_dr g n t s (am_sub S 20) 0).1)]) (st' := []) rfl rfl rfl rfl ?_
          refine ax_s (pc' := 58) (st' := [.int r]) rfl rfl rfl rfl ?_
          refine ax_if_ne rfl (fun c1 => ?_) (fun c1 => ?_)
          · refine ax_s (pc' := 67) (st' := [.ref 5]) rfl rfl rfl rfl ?_
            refine ax_get rfl (hh_5 _ _ _) rfl rfl rfl ?_
            show am_ex (d + 8) 124 70 [some (.ref 5), some (.int (nI t)), some (.int (nI s)), some (.int r), some (.int (w_dr g n t s (am_sub S 20) 0).1)] [.ref 29] (am_hh X (am_ovl S 29 (w_dr g n t s (am_sub S 20) 0).2) L) _
            refine ax_call (vs := [.ref 29]) (rr := []) rfl rfl rfl ?_
            refine kw (am_hh_ov isW29 X S L (w_dr g n t s (am_sub S 20) 0).2).symm (am_hh_ov isW29 X S L (w_dr g n t s (am_sub S 20) 0).2).symm.symm (fun _ => ct_riddenOfAll (am_isW_k isW29 X S L) (show wF (w_dr g n t s (am_sub S 20) 0).2 g n from (wF_dr t s _ _ hf)).1 (show wF (w_dr g n t s (am_sub S 20) 0).2 g n from (wF_dr t s _ _ hf)).2.1) ?_
            show am_ex (d + 8) 124 73 [some (.ref 5), some (.int (nI t)), some (.int (nI s)), some (.int r), some (.int (w_dr g n t s (am_sub S 20) 0).1)] [.int (w_sum ((w_dr g n t s (am_sub S 20) 0).2 7) n 0 0)] (am_hh X (am_ovl S 29 (w_dr g n t s (am_sub S 20) 0).2) L) _
            refine ax_r rfl rfl rfl ?_
            exact k1 c1
          · refine ax_s (pc' := 63) (st' := [.int (w_dr g n t s (am_sub S 20) 0).1]) rfl rfl rfl rfl ?_
            refine ax_s (pc' := 73) (st' := [.int (w_dr g n t s (am_sub S 20) 0).1]) rfl rfl rfl rfl ?_
            refine ax_r rfl rfl rfl ?_
            exact k2 c1
        · refine ax_s (pc' := 45) (st' := [.int (-1000001)]) rfl rfl rfl rfl ?_
          refine ax_r rfl rfl rfl ?_
          first | exact absurd (hg.2.2.2) c4 | exact absurd c4 (hg.2.2.2) | exact absurd (hg.2.2.2) (ne_true_of_eq_false c4)
  · refine ax_s (pc' := 12) (st' := [.int (-1000002)]) rfl rfl rfl rfl ?_
    refine ax_r rfl rfl rfl ?_
    first | exact absurd (hg.1) c1 | exact absurd c1 (hg.1) | exact absurd (hg.1) (ne_true_of_eq_false c1)
theorem wv_m_drawn {d : Nat} {X : Nat × (Nat → Int32)} {S : Nat → Nat → Int32} {L : Nat → Int64} {g n : Nat} {W : Nat → Nat → Int32} {t s : Nat} {r : Int32} {Q : Option Value → am_H → Prop} (hR : mR W S 293 g n) (hK : JK S)  (hg : g_m_drawn S (nI t) (nI s) r) (k1 : ∀ S1 : Nat → Nat → Int32, mR W S1 298 g n → F8 S S1 → am_ex (d + 8) 218 57 [some (.ref 285), some (.int (nI t)), some (.int (nI s)), some (.int r), some (.long (nI s).toInt64), none, some (.int 0), some (.int 0), none] [] (am_hh X S1 L) Q) : am_mt (d + 8) 218 [.ref 285, .int (nI t), .int (nI s), .int r] (am_hh X S L) Q := by
  refine ax_in (ls := [some (.ref 285), some (.int (nI t)), some (.int (nI s)), some (.int r), none, none, none, none, none]) rfl ?_
  refine ax_s (pc' := 1) (st' := [.ref 285]) rfl rfl rfl rfl ?_
  refine ax_call (vs := [.ref 285]) (rr := []) rfl rfl rfl ?_
  refine mt_isNone  ?_
  show am_ex (d + 8) 218 4 [some (.ref 285), some (.int (nI t)), some (.int (nI s)), some (.int r), none, none, none, none, none] [.int (bI (decide ((S 285 8) = 0)))] (am_hh X S L) _
  refine ax_pF rfl (fun c1 => ?_) (fun c1 => ?_)
  · refine ax_s (pc' := 11) (st' := [.int (nI t)]) rfl rfl rfl rfl ?_
    refine ax_s (pc' := 12) (st' := [.int 0, .int (nI t)]) rfl rfl rfl rfl ?_
    refine ax_s (pc' := 14) (st' := [.int 60, .int 0, .int (nI t)]) rfl rfl rfl rfl ?_
    refine ax_call (vs := [.int (nI t), .int 0, .int 60]) (rr := []) rfl rfl rfl ?_
    refine mt_in ?_
    show am_ex (d + 8) 218 17 [some (.ref 285), some (.int (nI t)), some (.int (nI s)), some (.int r), none, none, none, none, none] [.int (bI (decide (¬ (nI t) < 0 ∧ ¬ 60 < (nI t))))] (am_hh X S L) _
    refine ax_pF rfl (fun c2 => ?_) (fun c2 => ?_)
    · refine ax_s (pc' := 42) (st' := [.int (-1000001)]) rfl rfl rfl rfl ?_
      refine ax_r rfl rfl rfl ?_
      first | exact absurd (hg.2.1) c2 | exact absurd c2 (hg.2.1) | exact absurd (hg.2.1) (ne_true_of_eq_false c2)
    · refine ax_s (pc' := 21) (st' := [.int (nI s)]) rfl rfl rfl rfl ?_
      refine ax_s (pc' := 22) (st' := [.int 1, .int (nI s)]) rfl rfl rfl rfl ?_
      refine ax_s (pc' := 25) (st' := [.int 999999, .int 1, .int (nI s)]) rfl rfl rfl rfl ?_
      refine ax_call (vs := [.int (nI s), .int 1, .int 999999]) (rr := []) rfl rfl rfl ?_
      refine mt_in ?_
      show am_ex (d + 8) 218 28 [some (.ref 285), some (.int (nI t)), some (.int (nI s)), some (.int r), none, none, none, none, none] [.int (bI (decide (¬ (nI s) < 1 ∧ ¬ 999999 < (nI s))))] (am_hh X S L) _
      refine ax_pF rfl (fun c3 => ?_) (fun c3 => ?_)
      · refine ax_s (pc' := 42) (st' := [.int (-1000001)]) rfl rfl rfl rfl ?_
        refine ax_r rfl rfl rfl ?_
        first | exact absurd (hg.2.2.1) c3 | exact absurd c3 (hg.2.2.1) | exact absurd (hg.2.2.1) (ne_true_of_eq_false c3)
      · refine ax_s (pc' := 32) (st' := [.int r]) rfl rfl rfl rfl ?_
        refine ax_s (pc' := 33) (st' := [.int 0, .int r]) rfl rfl rfl rfl ?_
        refine ax_s (pc' := 34) (st' := [.int 1, .int 0, .int r]) rfl rfl rfl rfl ?_
        refine ax_call (vs := [.int r, .int 0, .int 1]) (rr := []) rfl rfl rfl ?_
        refine mt_in ?_
        show am_ex (d + 8) 218 37 [some (.ref 285), some (.int (nI t)), some (.int (nI s)), some (.int r), none, none, none, none, none] [.int (bI (decide (¬ r < 0 ∧ ¬ 1 < r)))] (am_hh X S L) _
        refine ax_pT rfl (fun c4 => ?_) (fun c4 => ?_)
        · refine ax_s (pc' := 44) (st' := [.int (nI s)]) rfl rfl rfl rfl ?_
          refine ax_s (pc' := 45) (st' := [.long (nI s).toInt64]) rfl rfl rfl rfl ?_
          refine ax_s (pc' := 47) (ls' := [some (.ref 285), some (.int (nI t)), some (.int (nI s)), some (.int r), some (.long (nI s).toInt64), none, none, none, none]) (st' := []) rfl rfl rfl rfl ?_
          refine ax_s (pc' := 48) (st' := [.int 0]) rfl rfl rfl rfl ?_
          refine ax_s (pc' := 50) (ls' := [some (.ref 285), some (.int (nI t)), some (.int (nI s)), some (.int r), some (.long (nI s).toInt64), none, some (.int 0), none, none]) (st' := []) rfl rfl rfl rfl ?_
          refine ax_s (pc' := 51) (st' := [.ref 285]) rfl rfl rfl rfl ?_
          refine ax_call (vs := [.ref 285]) (rr := []) rfl rfl rfl ?_
          refine mt_asItIs' (F8_m F8_r hR) (fun S1 hm1 hf1 => ?_)
          show am_ex (d + 8) 218 54 [some (.ref 285), some (.int (nI t)), some (.int (nI s)), some (.int r), some (.long (nI s).toInt64), none, some (.int 0), none, none] [] (am_hh X S1 L) _
          refine ax_s (pc' := 55) (st' := [.int 0]) rfl rfl rfl rfl ?_
          refine ax_s (pc' := 57) (ls' := [some (.ref 285), some (.int (nI t)), some (.int (nI s)), some (.int r), some (.long (nI s).toInt64), none, some (.int 0), some (.int 0), none]) (st' := []) rfl rfl rfl rfl ?_
          exact k1 S1 hm1 hf1
        · refine ax_s (pc' := 42) (st' := [.int (-1000001)]) rfl rfl rfl rfl ?_
          refine ax_r rfl rfl rfl ?_
          first | exact absurd (hg.2.2.2) c4 | exact absurd c4 (hg.2.2.2) | exact absurd (hg.2.2.2) (ne_true_of_eq_false c4)
  · refine ax_s (pc' := 9) (st' := [.int (-1000002)]) rfl rfl rfl rfl ?_
    refine ax_r rfl rfl rfl ?_
    first | exact absurd (hg.1) c1 | exact absurd c1 (hg.1) | exact absurd (hg.1) (ne_true_of_eq_false c1)
theorem wl_mdrawn {d : Nat} {X : Nat × (Nat → Int32)} {S : Nat → Nat → Int32} {L : Nat → Int64} {g n : Nat} {W : Nat → Nat → Int32} {V S1 : Nat → Nat → Int32} {z t j : Nat} {q r a : Int32} {x8 : Option Value} {Q : Option Value → am_H → Prop} (hR : mR W S 293 g n) (hK : JK S) (hm1 : mR V S1 298 g n) (hf1 : F8 S S1) (hz : z < 2 ^ 31) (hn1 : 1 ≤ n) (hp : ((lN (z * 16807 % 2147483647)) - (lN (z * 16807 % 2147483647)) / (S1 285 7).toInt64 * (S1 285 7).toInt64).toInt32 = nI (z * 16807 % 2147483647 % n)) (hg : ((lN (z * 16807 % 2147483647)) - (lN (z * 16807 % 2147483647)) / (S1 285 8).toInt64 * (S1 285 8).toInt64).toInt32 = nI (z * 16807 % 2147483647 % g)) (hw : ¬ S1 298 (15 + (z * 16807 % 2147483647 % n)) < 2 → ¬ V 5 (z * 16807 % 2147483647 % n) = 1) (hb12 : z * 16807 % 2147483647 % g < 12)  (x1 : ¬ (nI t) ≤ (nI j) → ¬ (S1 285 7).toInt64 = 0) (x2 : ¬ (nI t) ≤ (nI j) → (15 + (z * 16807 % 2147483647 % n)) < 39) (x3 : ¬ (nI t) ≤ (nI j) → (S1 298 (15 + (z * 16807 % 2147483647 % n))) < 2 → (lg_cmp ((lN (z * 16807 % 2147483647)) - (lN (z * 16807 % 2147483647)) / 4 * 4) 0) = 0 → ¬ (S1 285 8).toInt64 = 0) (x4 : ¬ (nI t) ≤ (nI j) → (S1 298 (15 + (z * 16807 % 2147483647 % n))) < 2 → (lg_cmp ((lN (z * 16807 % 2147483647)) - (lN (z * 16807 % 2147483647)) / 4 * 4) 0) = 0 → (3 + (z * 16807 % 2147483647 % g)) < 39) (x5 : ¬ (nI t) ≤ (nI j) → ¬ (S1 298 (15 + (z * 16807 % 2147483647 % n))) < 2 → (27 + (z * 16807 % 2147483647 % n)) < 39) (x6 : ¬ (nI t) ≤ (nI j) → ¬ (S1 298 (15 + (z * 16807 % 2147483647 % n))) < 2 → (33 + (z * 16807 % 2147483647 % n)) < 39) (k1 : (nI t) ≤ (nI j) → ¬ r = 0 → Q (some (.int (w_sum (V 7) n 0 0))) (am_hh X S1 L)) (k2 : (nI t) ≤ (nI j) → r = 0 → Q (some (.int a)) (am_hh X S1 L)) (k3 : ¬ (nI t) ≤ (nI j) → (S1 298 (15 + (z * 16807 % 2147483647 % n))) < 2 → ¬ (lg_cmp ((lN (z * 16807 % 2147483647)) - (lN (z * 16807 % 2147483647)) / 4 * 4) 0) = 0 → ∀ S5 : Nat → Nat → Int32, mR (w_it rk0 g n 1 V) S5 298 g n → F8 S1 S5 → am_ex (d + 8) 218 57 [some (.ref 285), some (.int (nI t)), some (.int q), some (.int r), some (.long (lN (z * 16807 % 2147483647))), none, some (.int (a + (w_sn rk0 g n 1 V 0))), some (.int (nI (j + 1))), some (.int ((lN (z * 16807 % 2147483647)) - (lN (z * 16807 % 2147483647)) / (S1 285 7).toInt64 * (S1 285 7).toInt64).toInt32)] [] (am_hh X S5 L) Q) (k4 : ¬ (nI t) ≤ (nI j) → (S1 298 (15 + (z * 16807 % 2147483647 % n))) < 2 → (lg_cmp ((lN (z * 16807 % 2147483647)) - (lN (z * 16807 % 2147483647)) / 4 * 4) 0) = 0 → ∀ S6 : Nat → Nat → Int32, mR (w_it rk0 g n 1 (am_u V 1 (z * 16807 % 2147483647 % g) ((lN (z * 16807 % 2147483647)) - (lN (z * 16807 % 2147483647)) / 10 * 10).toInt32)) S6 298 g n → F8 (am_u S1 298 (3 + (z * 16807 % 2147483647 % g)) ((lN (z * 16807 % 2147483647)) - (lN (z * 16807 % 2147483647)) / 10 * 10).toInt32) S6 → am_ex (d + 8) 218 57 [some (.ref 285), some (.int (nI t)), some (.int q), some (.int r), some (.long (lN (z * 16807 % 2147483647))), none, some (.int (a + (w_sn rk0 g n 1 (am_u V 1 (z * 16807 % 2147483647 % g) ((lN (z * 16807 % 2147483647)) - (lN (z * 16807 % 2147483647)) / 10 * 10).toInt32) 0))), some (.int (nI (j + 1))), some (.int ((lN (z * 16807 % 2147483647)) - (lN (z * 16807 % 2147483647)) / (S1 285 7).toInt64 * (S1 285 7).toInt64).toInt32)] [] (am_hh X S6 L) Q) (k5 : ¬ (nI t) ≤ (nI j) → ¬ (S1 298 (15 + (z * 16807 % 2147483647 % n))) < 2 → ∀ S7 : Nat → Nat → Int32, mR (w_it rk0 g n 1 (am_u (am_u (am_u V 5 (z * 16807 % 2147483647 % n) 0) 7 (z * 16807 % 2147483647 % n) 0) 8 (z * 16807 % 2147483647 % n) 0)) S7 298 g n → F8 (am_u (am_u (am_u S1 298 (15 + (z * 16807 % 2147483647 % n)) 0) 298 (27 + (z * 16807 % 2147483647 % n)) 0) 298 (33 + (z * 16807 % 2147483647 % n)) 0) S7 → am_ex (d + 8) 218 57 [some (.ref 285), some (.int (nI t)), some (.int q), some (.int r), some (.long (lN (z * 16807 % 2147483647))), none, some (.int (a + (w_sn rk0 g n 1 (am_u (am_u (am_u V 5 (z * 16807 % 2147483647 % n) 0) 7 (z * 16807 % 2147483647 % n) 0) 8 (z * 16807 % 2147483647 % n) 0) 0))), some (.int (nI (j + 1))), some (.int ((lN (z * 16807 % 2147483647)) - (lN (z * 16807 % 2147483647)) / (S1 285 7).toInt64 * (S1 285 7).toInt64).toInt32)] [] (am_hh X S7 L) Q) : am_ex (d + 8) 218 57 [some (.ref 285), some (.int (nI t)), some (.int q), some (.int r), some (.long (lN z)), none, some (.int a), some (.int (nI j)), x8] [] (am_hh X S1 L) Q := by
  refine ax_s (pc' := 59) (st' := [.int (nI j)]) rfl rfl rfl rfl ?_
  refine ax_s (pc' := 60) (st' := [.int (nI t), .int (nI j)]) rfl rfl rfl rfl ?_
  refine ax_cmp_ge rfl (fun c1 => ?_) (fun c1 => ?_)
  · refine ax_s (pc' := 163) (st' := [.int r]) rfl rfl rfl rfl ?_
    refine ax_if_ne rfl (fun c2 => ?_) (fun c2 => ?_)
    · refine ax_s (pc' := 172) (st' := [.ref 285]) rfl rfl rfl rfl ?_
      refine ax_s (pc' := 173) (st' := [.ref 285, .ref 285]) rfl rfl rfl rfl ?_
      refine ax_get rfl (hh_285 _ _ _) rfl rfl rfl ?_
      show am_ex (d + 8) 218 176 [some (.ref 285), some (.int (nI t)), some (.int q), some (.int r), some (.long (lN z)), none, some (.int a), some (.int (nI j)), x8] [.ref 298, .ref 285] (am_hh X S1 L) _
      refine ax_call (vs := [.ref 285, .ref 298]) (rr := []) rfl rfl rfl ?_
      refine mt_riddenOf (Or.inr rfl) hm1 ?_
      show am_ex (d + 8) 218 179 [some (.ref 285), some (.int (nI t)), some (.int q), some (.int r), some (.long (lN z)), none, some (.int a), some (.int (nI j)), x8] [.int (w_sum (V 7) n 0 0)] (am_hh X S1 L) _
      refine ax_r rfl rfl rfl ?_
      exact k1 c1 c2
    · refine ax_s (pc' := 168) (st' := [.int a]) rfl rfl rfl rfl ?_
      refine ax_s (pc' := 179) (st' := [.int a]) rfl rfl rfl rfl ?_
      refine ax_r rfl rfl rfl ?_
      exact k2 c1 c2
  · refine ax_s (pc' := 65) (st' := [.long (lN z)]) rfl rfl rfl rfl ?_
    refine ax_s (pc' := 68) (st' := [.long 16807, .long (lN z)]) rfl rfl rfl rfl ?_
    refine ax_s (pc' := 69) (st' := [.long ((lN z) * 16807)]) rfl rfl rfl rfl ?_
    refine ax_s (pc' := 72) (st' := [.long 2147483647, .long ((lN z) * 16807)]) rfl rfl rfl rfl ?_
    refine ax_lrem rfl (by decide) ?_
    refine ax_s (pc' := 75) (ls' := [some (.ref 285), some (.int (nI t)), some (.int q), some (.int r), some (.long (((lN z) * 16807) - ((lN z) * 16807) / 2147483647 * 2147483647)), none, some (.int a), some (.int (nI j)), x8]) (st' := []) rfl rfl rfl rfl ?_
    rw [show (((lN z) * 16807) - ((lN z) * 16807) / 2147483647 * 2147483647) = lN (z * 16807 % 2147483647) from dr_z hz]
    refine ax_s (pc' := 77) (st' := [.long (lN (z * 16807 % 2147483647))]) rfl rfl rfl rfl ?_
    refine ax_s (pc' := 78) (st' := [.ref 285, .long (lN (z * 16807 % 2147483647))]) rfl rfl rfl rfl ?_
    refine ax_get rfl (hh_285 _ _ _) rfl rfl rfl ?_
    show am_ex (d + 8) 218 81 [some (.ref 285), some (.int (nI t)), some (.int q), some (.int r), some (.long (lN (z * 16807 % 2147483647))), none, some (.int a), some (.int (nI j)), x8] [.int (S1 285 7), .long (lN (z * 16807 % 2147483647))] (am_hh X S1 L) _
    refine ax_s (pc' := 82) (st' := [.long (S1 285 7).toInt64, .long (lN (z * 16807 % 2147483647))]) rfl rfl rfl rfl ?_
    refine ax_lrem rfl (x1 c1) ?_
    refine ax_s (pc' := 84) (st' := [.int ((lN (z * 16807 % 2147483647)) - (lN (z * 16807 % 2147483647)) / (S1 285 7).toInt64 * (S1 285 7).toInt64).toInt32]) rfl rfl rfl rfl ?_
    refine ax_s (pc' := 86) (ls' := [some (.ref 285), some (.int (nI t)), some (.int q), some (.int r), some (.long (lN (z * 16807 % 2147483647))), none, some (.int a), some (.int (nI j)), some (.int ((lN (z * 16807 % 2147483647)) - (lN (z * 16807 % 2147483647)) / (S1 285 7).toInt64 * (S1 285 7).toInt64).toInt32)]) (st' := []) rfl rfl rfl rfl ?_
    refine ax_s (pc' := 87) (st' := [.ref 285]) rfl rfl rfl rfl ?_
    refine ax_get rfl (hh_285 _ _ _) rfl rfl rfl ?_
    show am_ex (d + 8) 218 90 [some (.ref 285), some (.int (nI t)), some (.int q), some (.int r), some (.long (lN (z * 16807 % 2147483647))), none, some (.int a), some (.int (nI j)), some (.int ((lN (z * 16807 % 2147483647)) - (lN (z * 16807 % 2147483647)) / (S1 285 7).toInt64 * (S1 285 7).toInt64).toInt32)] [.ref 298] (am_hh X S1 L) _
    refine ax_s (pc' := 92) (st' := [.int 15, .ref 298]) rfl rfl rfl rfl ?_
    refine ax_s (pc' := 94) (st' := [.int ((lN (z * 16807 % 2147483647)) - (lN (z * 16807 % 2147483647)) / (S1 285 7).toInt64 * (S1 285 7).toInt64).toInt32, .int 15, .ref 298]) rfl rfl rfl rfl ?_
    refine ax_s (pc' := 95) (st' := [.int (15 + ((lN (z * 16807 % 2147483647)) - (lN (z * 16807 % 2147483647)) / (S1 285 7).toInt64 * (S1 285 7).toInt64).toInt32), .ref 298]) rfl rfl rfl rfl ?_
    refine ax_ald (j := (15 + (z * 16807 % 2147483647 % n))) (v := (S1 298 (15 + (z * 16807 % 2147483647 % n)))) rfl (hh_298 _ _ _) rfl (am_na (x := 15) (y := (z * 16807 % 2147483647 % n)) rfl hp) (x2 c1) (by decide) rfl ?_
    refine ax_s (pc' := 97) (st' := [.int 2, .int (S1 298 (15 + (z * 16807 % 2147483647 % n)))]) rfl rfl rfl rfl ?_
    refine ax_cmp_lt rfl (fun c3 => ?_) (fun c3 => ?_)
    · refine ax_s (pc' := 114) (st' := [.long (lN (z * 16807 % 2147483647))]) rfl rfl rfl rfl ?_
      refine ax_s (pc' := 117) (st' := [.long 4, .long (lN (z * 16807 % 2147483647))]) rfl rfl rfl rfl ?_
      refine ax_lrem rfl (by decide) ?_
      refine ax_s (pc' := 119) (st' := [.long 0, .long ((lN (z * 16807 % 2147483647)) - (lN (z * 16807 % 2147483647)) / 4 * 4)]) rfl rfl rfl rfl ?_
      refine ax_s (pc' := 120) (st' := [.int (lg_cmp ((lN (z * 16807 % 2147483647)) - (lN (z * 16807 % 2147483647)) / 4 * 4) 0)]) rfl rfl rfl rfl ?_
      refine ax_if_ne rfl (fun c4 => ?_) (fun c4 => ?_)
      · refine ax_s (pc' := 148) (st' := [.int a]) rfl rfl rfl rfl ?_
        refine ax_s (pc' := 149) (st' := [.ref 285, .int a]) rfl rfl rfl rfl ?_
        refine ax_s (pc' := 150) (st' := [.int 1, .ref 285, .int a]) rfl rfl rfl rfl ?_
        refine ax_call (vs := [.ref 285, .int 1]) (rr := [.int a]) rfl rfl rfl ?_
        refine mt_goes (K := 1) rfl (by decide) (F8_K hf1 hK) hm1 (fun S5 hm5 hf5 => ?_)
        show am_ex (d + 8) 218 153 [some (.ref 285), some (.int (nI t)), some (.int q), some (.int r), some (.long (lN (z * 16807 % 2147483647))), none, some (.int a), some (.int (nI j)), some (.int ((lN (z * 16807 % 2147483647)) - (lN (z * 16807 % 2147483647)) / (S1 285 7).toInt64 * (S1 285 7).toInt64).toInt32)] [.int (w_sn rk0 g n 1 V 0), .int a] (am_hh X S5 L) _
        refine ax_s (pc' := 154) (st' := [.int (a + (w_sn rk0 g n 1 V 0))]) rfl rfl rfl rfl ?_
        refine ax_s (pc' := 156) (ls' := [some (.ref 285), some (.int (nI t)), some (.int q), some (.int r), some (.long (lN (z * 16807 % 2147483647))), none, some (.int (a + (w_sn rk0 g n 1 V 0))), some (.int (nI j)), some (.int ((lN (z * 16807 % 2147483647)) - (lN (z * 16807 % 2147483647)) / (S1 285 7).toInt64 * (S1 285 7).toInt64).toInt32)]) (st' := []) rfl rfl rfl rfl ?_
        refine ax_s (pc' := 159) (ls' := [some (.ref 285), some (.int (nI t)), some (.int q), some (.int r), some (.long (lN (z * 16807 % 2147483647))), none, some (.int (a + (w_sn rk0 g n 1 V 0))), some (.int ((nI j) + 1)), some (.int ((lN (z * 16807 % 2147483647)) - (lN (z * 16807 % 2147483647)) / (S1 285 7).toInt64 * (S1 285 7).toInt64).toInt32)]) (st' := []) rfl rfl rfl rfl ?_
        rw [nI_1]
        refine ax_s (pc' := 57) (st' := []) rfl rfl rfl rfl ?_
        exact k3 c1 c3 c4 S5 hm5 hf5
      · refine ax_s (pc' := 124) (st' := [.ref 285]) rfl rfl rfl rfl ?_
        refine ax_get rfl (hh_285 _ _ _) rfl rfl rfl ?_
        show am_ex (d + 8) 218 127 [some (.ref 285), some (.int (nI t)), some (.int q), some (.int r), some (.long (lN (z * 16807 % 2147483647))), none, some (.int a), some (.int (nI j)), some (.int ((lN (z * 16807 % 2147483647)) - (lN (z * 16807 % 2147483647)) / (S1 285 7).toInt64 * (S1 285 7).toInt64).toInt32)] [.ref 298] (am_hh X S1 L) _
        refine ax_s (pc' := 128) (st' := [.int 3, .ref 298]) rfl rfl rfl rfl ?_
        refine ax_s (pc' := 130) (st' := [.long (lN (z * 16807 % 2147483647)), .int 3, .ref 298]) rfl rfl rfl rfl ?_
        refine ax_s (pc' := 131) (st' := [.ref 285, .long (lN (z * 16807 % 2147483647)), .int 3, .ref 298]) rfl rfl rfl rfl ?_
        refine ax_get rfl (hh_285 _ _ _) rfl rfl rfl ?_
        show am_ex (d + 8) 218 134 [some (.ref 285), some (.int (nI t)), some (.int q), some (.int r), some (.long (lN (z * 16807 % 2147483647))), none, some (.int a), some (.int (nI j)), some (.int ((lN (z * 16807 % 2147483647)) - (lN (z * 16807 % 2147483647)) / (S1 285 7).toInt64 * (S1 285 7).toInt64).toInt32)] [.int (S1 285 8), .long (lN (z * 16807 % 2147483647)), .int 3, .ref 298] (am_hh X S1 L) _
        refine ax_s (pc' := 135) (st' := [.long (S1 285 8).toInt64, .long (lN (z * 16807 % 2147483647)), .int 3, .ref 298]) rfl rfl rfl rfl ?_
        refine ax_lrem rfl (x3 c1 c3 c4) ?_
        refine ax_s (pc' := 137) (st' := [.int ((lN (z * 16807 % 2147483647)) - (lN (z * 16807 % 2147483647)) / (S1 285 8).toInt64 * (S1 285 8).toInt64).toInt32, .int 3, .ref 298]) rfl rfl rfl rfl ?_
        refine ax_s (pc' := 138) (st' := [.int (3 + ((lN (z * 16807 % 2147483647)) - (lN (z * 16807 % 2147483647)) / (S1 285 8).toInt64 * (S1 285 8).toInt64).toInt32), .ref 298]) rfl rfl rfl rfl ?_
        refine ax_s (pc' := 140) (st' := [.long (lN (z * 16807 % 2147483647)), .int (3 + ((lN (z * 16807 % 2147483647)) - (lN (z * 16807 % 2147483647)) / (S1 285 8).toInt64 * (S1 285 8).toInt64).toInt32), .ref 298]) rfl rfl rfl rfl ?_
        refine ax_s (pc' := 143) (st' := [.long 10, .long (lN (z * 16807 % 2147483647)), .int (3 + ((lN (z * 16807 % 2147483647)) - (lN (z * 16807 % 2147483647)) / (S1 285 8).toInt64 * (S1 285 8).toInt64).toInt32), .ref 298]) rfl rfl rfl rfl ?_
        refine ax_lrem rfl (by decide) ?_
        refine ax_s (pc' := 145) (st' := [.int ((lN (z * 16807 % 2147483647)) - (lN (z * 16807 % 2147483647)) / 10 * 10).toInt32, .int (3 + ((lN (z * 16807 % 2147483647)) - (lN (z * 16807 % 2147483647)) / (S1 285 8).toInt64 * (S1 285 8).toInt64).toInt32), .ref 298]) rfl rfl rfl rfl ?_
        refine ax_ast (j := (3 + (z * 16807 % 2147483647 % g))) rfl (hh_298 _ _ _) rfl (am_na (x := 3) (y := (z * 16807 % 2147483647 % g)) rfl hg) (x4 c1 c3 c4) (by decide) (am_hh_set _ _ _ 298 (3 + (z * 16807 % 2147483647 % g)) _ rfl) ?_
        refine ax_s (pc' := 148) (st' := [.int a]) rfl rfl rfl rfl ?_
        refine ax_s (pc' := 149) (st' := [.ref 285, .int a]) rfl rfl rfl rfl ?_
        refine ax_s (pc' := 150) (st' := [.int 1, .ref 285, .int a]) rfl rfl rfl rfl ?_
        refine ax_call (vs := [.ref 285, .int 1]) (rr := [.int a]) rfl rfl rfl ?_
        refine mt_goes (K := 1) rfl (by decide) (F8_K (F8_u hf1) hK) (mR_bal (Or.inr rfl) hm1 hb12) (fun S6 hm6 hf6 => ?_)
        show am_ex (d + 8) 218 153 [some (.ref 285), some (.int (nI t)), some (.int q), some (.int r), some (.long (lN (z * 16807 % 2147483647))), none, some (.int a), some (.int (nI j)), some (.int ((lN (z * 16807 % 2147483647)) - (lN (z * 16807 % 2147483647)) / (S1 285 7).toInt64 * (S1 285 7).toInt64).toInt32)] [.int (w_sn rk0 g n 1 (am_u V 1 (z * 16807 % 2147483647 % g) ((lN (z * 16807 % 2147483647)) - (lN (z * 16807 % 2147483647)) / 10 * 10).toInt32) 0), .int a] (am_hh X S6 L) _
        refine ax_s (pc' := 154) (st' := [.int (a + (w_sn rk0 g n 1 (am_u V 1 (z * 16807 % 2147483647 % g) ((lN (z * 16807 % 2147483647)) - (lN (z * 16807 % 2147483647)) / 10 * 10).toInt32) 0))]) rfl rfl rfl rfl ?_
        refine ax_s (pc' := 156) (ls' := [some (.ref 285), some (.int (nI t)), some (.int q), some (.int r), some (.long (lN (z * 16807 % 2147483647))), none, some (.int (a + (w_sn rk0 g n 1 (am_u V 1 (z * 16807 % 2147483647 % g) ((lN (z * 16807 % 2147483647)) - (lN (z * 16807 % 2147483647)) / 10 * 10).toInt32) 0))), some (.int (nI j)), some (.int ((lN (z * 16807 % 2147483647)) - (lN (z * 16807 % 2147483647)) / (S1 285 7).toInt64 * (S1 285 7).toInt64).toInt32)]) (st' := []) rfl rfl rfl rfl ?_
        refine ax_s (pc' := 159) (ls' := [some (.ref 285), some (.int (nI t)), some (.int q), some (.int r), some (.long (lN (z * 16807 % 2147483647))), none, some (.int (a + (w_sn rk0 g n 1 (am_u V 1 (z * 16807 % 2147483647 % g) ((lN (z * 16807 % 2147483647)) - (lN (z * 16807 % 2147483647)) / 10 * 10).toInt32) 0))), some (.int ((nI j) + 1)), some (.int ((lN (z * 16807 % 2147483647)) - (lN (z * 16807 % 2147483647)) / (S1 285 7).toInt64 * (S1 285 7).toInt64).toInt32)]) (st' := []) rfl rfl rfl rfl ?_
        rw [nI_1]
        refine ax_s (pc' := 57) (st' := []) rfl rfl rfl rfl ?_
        exact k4 c1 c3 c4 S6 hm6 hf6
    · refine ax_s (pc' := 101) (st' := [.ref 285]) rfl rfl rfl rfl ?_
      refine ax_get rfl (hh_285 _ _ _) rfl rfl rfl ?_
      show am_ex (d + 8) 218 104 [some (.ref 285), some (.int (nI t)), some (.int q), some (.int r), some (.long (lN (z * 16807 % 2147483647))), none, some (.int a), some (.int (nI j)), some (.int ((lN (z * 16807 % 2147483647)) - (lN (z * 16807 % 2147483647)) / (S1 285 7).toInt64 * (S1 285 7).toInt64).toInt32)] [.ref 298] (am_hh X S1 L) _
      refine ax_s (pc' := 106) (st' := [.int ((lN (z * 16807 % 2147483647)) - (lN (z * 16807 % 2147483647)) / (S1 285 7).toInt64 * (S1 285 7).toInt64).toInt32, .ref 298]) rfl rfl rfl rfl ?_
      refine ax_call (vs := [.ref 298, .int ((lN (z * 16807 % 2147483647)) - (lN (z * 16807 % 2147483647)) / (S1 285 7).toInt64 * (S1 285 7).toInt64).toInt32]) (rr := []) rfl rfl rfl ?_
      refine ax_in (ls := [some (.ref 298), some (.int ((lN (z * 16807 % 2147483647)) - (lN (z * 16807 % 2147483647)) / (S1 285 7).toInt64 * (S1 285 7).toInt64).toInt32)]) rfl ?_
      refine ax_s (pc' := 1) (st' := [.ref 298]) rfl rfl rfl rfl ?_
      refine ax_s (pc' := 3) (st' := [.int 15, .ref 298]) rfl rfl rfl rfl ?_
      refine ax_s (pc' := 4) (st' := [.int ((lN (z * 16807 % 2147483647)) - (lN (z * 16807 % 2147483647)) / (S1 285 7).toInt64 * (S1 285 7).toInt64).toInt32, .int 15, .ref 298]) rfl rfl rfl rfl ?_
      refine ax_s (pc' := 5) (st' := [.int (15 + ((lN (z * 16807 % 2147483647)) - (lN (z * 16807 % 2147483647)) / (S1 285 7).toInt64 * (S1 285 7).toInt64).toInt32), .ref 298]) rfl rfl rfl rfl ?_
      refine ax_s (pc' := 6) (st' := [.int 0, .int (15 + ((lN (z * 16807 % 2147483647)) - (lN (z * 16807 % 2147483647)) / (S1 285 7).toInt64 * (S1 285 7).toInt64).toInt32), .ref 298]) rfl rfl rfl rfl ?_
      refine ax_ast (j := (15 + (z * 16807 % 2147483647 % n))) rfl (hh_298 _ _ _) rfl (am_na (x := 15) (y := (z * 16807 % 2147483647 % n)) rfl hp) (x2 c1) (by decide) (am_hh_set _ _ _ 298 (15 + (z * 16807 % 2147483647 % n)) _ rfl) ?_
      refine ax_s (pc' := 8) (st' := [.ref 298]) rfl rfl rfl rfl ?_
      refine ax_s (pc' := 10) (st' := [.int 27, .ref 298]) rfl rfl rfl rfl ?_
      refine ax_s (pc' := 11) (st' := [.int ((lN (z * 16807 % 2147483647)) - (lN (z * 16807 % 2147483647)) / (S1 285 7).toInt64 * (S1 285 7).toInt64).toInt32, .int 27, .ref 298]) rfl rfl rfl rfl ?_
      refine ax_s (pc' := 12) (st' := [.int (27 + ((lN (z * 16807 % 2147483647)) - (lN (z * 16807 % 2147483647)) / (S1 285 7).toInt64 * (S1 285 7).toInt64).toInt32), .ref 298]) rfl rfl rfl rfl ?_
      refine ax_s (pc' := 13) (st' := [.int 0, .int (27 + ((lN (z * 16807 % 2147483647)) - (lN (z * 16807 % 2147483647)) / (S1 285 7).toInt64 * (S1 285 7).toInt64).toInt32), .ref 298]) rfl rfl rfl rfl ?_
      refine ax_ast (j := (27 + (z * 16807 % 2147483647 % n))) rfl (hh_298 _ _ _) rfl (am_na (x := 27) (y := (z * 16807 % 2147483647 % n)) rfl hp) (x5 c1 c3) (by decide) (am_hh_set _ _ _ 298 (27 + (z * 16807 % 2147483647 % n)) _ rfl) ?_
      refine ax_s (pc' := 15) (st' := [.ref 298]) rfl rfl rfl rfl ?_
      refine ax_s (pc' := 17) (st' := [.int 33, .ref 298]) rfl rfl rfl rfl ?_
      refine ax_s (pc' := 18) (st' := [.int ((lN (z * 16807 % 2147483647)) - (lN (z * 16807 % 2147483647)) / (S1 285 7).toInt64 * (S1 285 7).toInt64).toInt32, .int 33, .ref 298]) rfl rfl rfl rfl ?_
      refine ax_s (pc' := 19) (st' := [.int (33 + ((lN (z * 16807 % 2147483647)) - (lN (z * 16807 % 2147483647)) / (S1 285 7).toInt64 * (S1 285 7).toInt64).toInt32), .ref 298]) rfl rfl rfl rfl ?_
      refine ax_s (pc' := 20) (st' := [.int 0, .int (33 + ((lN (z * 16807 % 2147483647)) - (lN (z * 16807 % 2147483647)) / (S1 285 7).toInt64 * (S1 285 7).toInt64).toInt32), .ref 298]) rfl rfl rfl rfl ?_
      refine ax_ast (j := (33 + (z * 16807 % 2147483647 % n))) rfl (hh_298 _ _ _) rfl (am_na (x := 33) (y := (z * 16807 % 2147483647 % n)) rfl hp) (x6 c1 c3) (by decide) (am_hh_set _ _ _ 298 (33 + (z * 16807 % 2147483647 % n)) _ rfl) ?_
      refine ax_r rfl rfl rfl ?_
      show am_ex (d + 8) 218 109 [some (.ref 285), some (.int (nI t)), some (.int q), some (.int r), some (.long (lN (z * 16807 % 2147483647))), none, some (.int a), some (.int (nI j)), some (.int ((lN (z * 16807 % 2147483647)) - (lN (z * 16807 % 2147483647)) / (S1 285 7).toInt64 * (S1 285 7).toInt64).toInt32)] [] (am_hh X (am_u (am_u (am_u S1 298 (15 + (z * 16807 % 2147483647 % n)) 0) 298 (27 + (z * 16807 % 2147483647 % n)) 0) 298 (33 + (z * 16807 % 2147483647 % n)) 0) L) _
      refine ax_s (pc' := 146) (st' := []) rfl rfl rfl rfl ?_
      refine ax_s (pc' := 148) (st' := [.int a]) rfl rfl rfl rfl ?_
      refine ax_s (pc' := 149) (st' := [.ref 285, .int a]) rfl rfl rfl rfl ?_
      refine ax_s (pc' := 150) (st' := [.int 1, .ref 285, .int a]) rfl rfl rfl rfl ?_
      refine ax_call (vs := [.ref 285, .int 1]) (rr := [.int a]) rfl rfl rfl ?_
      refine mt_goes (K := 1) rfl (by decide) (F8_K (F8_u (F8_u (F8_u hf1))) hK) (mR_wtd (Or.inr rfl) (mR_rd (Or.inr rfl) (mR_how (Or.inr rfl) hm1 (Nat.mod_lt _ hn1) (Or.inl rfl) (hw (by assumption))) (Nat.mod_lt _ hn1)) (Nat.mod_lt _ hn1)) (fun S7 hm7 hf7 => ?_)
      show am_ex (d + 8) 218 153 [some (.ref 285), some (.int (nI t)), some (.int q), some (.int r), some (.long (lN (z * 16807 % 2147483647))), none, some (.int a), some (.int (nI j)), some (.int ((lN (z * 16807 % 2147483647)) - (lN (z * 16807 % 2147483647)) / (S1 285 7).toInt64 * (S1 285 7).toInt64).toInt32)] [.int (w_sn rk0 g n 1 (am_u (am_u (am_u V 5 (z * 16807 % 2147483647 % n) 0) 7 (z * 16807 % 2147483647 % n) 0) 8 (z * 16807 % 2147483647 % n) 0) 0), .int a] (am_hh X S7 L) _
      refine ax_s (pc' := 154) (st' := [.int (a + (w_sn rk0 g n 1 (am_u (am_u (am_u V 5 (z * 16807 % 2147483647 % n) 0) 7 (z * 16807 % 2147483647 % n) 0) 8 (z * 16807 % 2147483647 % n) 0) 0))]) rfl rfl rfl rfl ?_
      refine ax_s (pc' := 156) (ls' := [some (.ref 285), some (.int (nI t)), some (.int q), some (.int r), some (.long (lN (z * 16807 % 2147483647))), none, some (.int (a + (w_sn rk0 g n 1 (am_u (am_u (am_u V 5 (z * 16807 % 2147483647 % n) 0) 7 (z * 16807 % 2147483647 % n) 0) 8 (z * 16807 % 2147483647 % n) 0) 0))), some (.int (nI j)), some (.int ((lN (z * 16807 % 2147483647)) - (lN (z * 16807 % 2147483647)) / (S1 285 7).toInt64 * (S1 285 7).toInt64).toInt32)]) (st' := []) rfl rfl rfl rfl ?_
      refine ax_s (pc' := 159) (ls' := [some (.ref 285), some (.int (nI t)), some (.int q), some (.int r), some (.long (lN (z * 16807 % 2147483647))), none, some (.int (a + (w_sn rk0 g n 1 (am_u (am_u (am_u V 5 (z * 16807 % 2147483647 % n) 0) 7 (z * 16807 % 2147483647 % n) 0) 8 (z * 16807 % 2147483647 % n) 0) 0))), some (.int ((nI j) + 1)), some (.int ((lN (z * 16807 % 2147483647)) - (lN (z * 16807 % 2147483647)) / (S1 285 7).toInt64 * (S1 285 7).toInt64).toInt32)]) (st' := []) rfl rfl rfl rfl ?_
      rw [nI_1]
      refine ax_s (pc' := 57) (st' := []) rfl rfl rfl rfl ?_
      exact k5 c1 c3 S7 hm7 hf7
