def g_k_steps (S : Nat → Nat → Int32) (p : Int32) : Prop := ¬ (S 20 4) ≤ 0 ∧ (¬ (p < 1 ∨ 24 < p)) ∧ ((S 20 3) + p) ≤ 999
def eg_k_steps (S : Nat → Nat → Int32) (p : Int32) : Int32 := (if (S 20 4) ≤ 0 then (-1000002) else (if p < 1 ∨ 24 < p then (-1000001) else (if ((S 20 3) + p) ≤ 999 then 0 else (-1000003))))
theorem wg_k_steps {d : Nat} {X : Nat × (Nat → Int32)} {S : Nat → Nat → Int32} {L : Nat → Int64} {p : Int32} {Q : Option Value → am_H → Prop}   (hb : ¬ g_k_steps S p) (hQ : Q (some (.int (eg_k_steps S p))) (am_hh X S L)) : am_mt (d + 8) 49 [.ref 5, .int p] (am_hh X S L) Q := by
  refine ax_in (ls := [some (.ref 5), some (.int p), none]) rfl ?_
  refine ax_s (pc' := 1) (st' := [.ref 5]) rfl rfl rfl rfl ?_
  refine ax_get rfl (hh_5 _ _ _) rfl rfl rfl ?_
  show am_ex (d + 8) 49 4 [some (.ref 5), some (.int p), none] [.ref 20] (am_hh X S L) _
  refine ax_call (vs := [.ref 20]) (rr := []) rfl rfl rfl ?_
  refine kw (am_hh_sub isW20 X S L) (am_hh_sub isW20 X S L).symm (fun _ => ct_stands (am_isW_k isW20 X S L)) ?_
  show am_ex (d + 8) 49 7 [some (.ref 5), some (.int p), none] [.int (bI (decide (¬ (S 20 4) ≤ 0)))] (am_hh X S L) _
  refine ax_qT rfl (fun c1 => ?_) (fun c1 => ?_)
  · refine ax_s (pc' := 14) (st' := [.int p]) rfl rfl rfl rfl ?_
    refine ax_s (pc' := 15) (st' := [.int 1, .int p]) rfl rfl rfl rfl ?_
    refine ax_s (pc' := 17) (st' := [.int 24, .int 1, .int p]) rfl rfl rfl rfl ?_
    refine ax_call (vs := [.int p, .int 1, .int 24]) (rr := []) rfl rfl rfl ?_
    refine ct_isOutside ?_
    show am_ex (d + 8) 49 20 [some (.ref 5), some (.int p), none] [.int (bI (decide (p < 1 ∨ 24 < p)))] (am_hh X S L) _
    refine ax_pF rfl (fun c2 => ?_) (fun c2 => ?_)
    · refine ax_s (pc' := 27) (st' := [.ref 5]) rfl rfl rfl rfl ?_
      refine ax_get rfl (hh_5 _ _ _) rfl rfl rfl ?_
      show am_ex (d + 8) 49 30 [some (.ref 5), some (.int p), none] [.ref 20] (am_hh X S L) _
      refine ax_get rfl (hh_20 _ _ _) rfl rfl rfl ?_
      show am_ex (d + 8) 49 33 [some (.ref 5), some (.int p), none] [.int (S 20 3)] (am_hh X S L) _
      refine ax_s (pc' := 34) (st' := [.int p, .int (S 20 3)]) rfl rfl rfl rfl ?_
      refine ax_s (pc' := 35) (st' := [.int ((S 20 3) + p)]) rfl rfl rfl rfl ?_
      refine ax_s (pc' := 38) (st' := [.int 999, .int ((S 20 3) + p)]) rfl rfl rfl rfl ?_
      refine ax_cmp_le rfl (fun c3 => ?_) (fun c3 => ?_)
      · exact absurd ⟨c1, c2, c3⟩ hb
      · refine ax_s (pc' := 43) (st' := [.int (-1000003)]) rfl rfl rfl rfl ?_
        refine ax_r rfl rfl rfl ?_
        unfold eg_k_steps at hQ
        rw [if_neg c1, if_neg c2, if_neg c3] at hQ
        exact hQ
    · refine ax_s (pc' := 25) (st' := [.int (-1000001)]) rfl rfl rfl rfl ?_
      refine ax_r rfl rfl rfl ?_
      unfold eg_k_steps at hQ
      rw [if_neg c1, if_pos c2] at hQ
      exact hQ
  · refine ax_s (pc' := 12) (st' := [.int (-1000002)]) rfl rfl rfl rfl ?_
    refine ax_r rfl rfl rfl ?_
    unfold eg_k_steps at hQ
    rw [if_pos c1] at hQ
    exact hQ
def g_m_steps (S : Nat → Nat → Int32) (p : Int32) : Prop := ¬ ((S 285 8) = 0) ∧ (¬ p < 1 ∧ ¬ 24 < p) ∧ ((S 293 0) + p) ≤ 999
def eg_m_steps (S : Nat → Nat → Int32) (p : Int32) : Int32 := (if (S 285 8) = 0 then (-1000002) else (if ¬ p < 1 ∧ ¬ 24 < p then (if ((S 293 0) + p) ≤ 999 then 0 else (-1000003)) else (-1000001)))
theorem wg_m_steps {d : Nat} {X : Nat × (Nat → Int32)} {S : Nat → Nat → Int32} {L : Nat → Int64} {p : Int32} {Q : Option Value → am_H → Prop}   (hb : ¬ g_m_steps S p) (hQ : Q (some (.int (eg_m_steps S p))) (am_hh X S L)) : am_mt (d + 8) 170 [.ref 285, .int p] (am_hh X S L) Q := by
  refine ax_in (ls := [some (.ref 285), some (.int p), none]) rfl ?_
  refine ax_s (pc' := 1) (st' := [.ref 285]) rfl rfl rfl rfl ?_
  refine ax_call (vs := [.ref 285]) (rr := []) rfl rfl rfl ?_
  refine mt_isNone  ?_
  show am_ex (d + 8) 170 4 [some (.ref 285), some (.int p), none] [.int (bI (decide ((S 285 8) = 0)))] (am_hh X S L) _
  refine ax_pF rfl (fun c1 => ?_) (fun c1 => ?_)
  · refine ax_s (pc' := 11) (st' := [.int p]) rfl rfl rfl rfl ?_
    refine ax_s (pc' := 12) (st' := [.int 1, .int p]) rfl rfl rfl rfl ?_
    refine ax_s (pc' := 14) (st' := [.int 24, .int 1, .int p]) rfl rfl rfl rfl ?_
    refine ax_call (vs := [.int p, .int 1, .int 24]) (rr := []) rfl rfl rfl ?_
    refine mt_in ?_
    show am_ex (d + 8) 170 17 [some (.ref 285), some (.int p), none] [.int (bI (decide (¬ p < 1 ∧ ¬ 24 < p)))] (am_hh X S L) _
    refine ax_pT rfl (fun c2 => ?_) (fun c2 => ?_)
    · refine ax_s (pc' := 24) (st' := [.ref 285]) rfl rfl rfl rfl ?_
      refine ax_get rfl (hh_285 _ _ _) rfl rfl rfl ?_
      show am_ex (d + 8) 170 27 [some (.ref 285), some (.int p), none] [.ref 293] (am_hh X S L) _
      refine ax_s (pc' := 28) (st' := [.int 0, .ref 293]) rfl rfl rfl rfl ?_
      refine ax_ald (j := 0) (v := (S 293 0)) rfl (hh_293 _ _ _) rfl rfl (by decide) (by decide) rfl ?_
      refine ax_s (pc' := 30) (st' := [.int p, .int (S 293 0)]) rfl rfl rfl rfl ?_
      refine ax_s (pc' := 31) (st' := [.int ((S 293 0) + p)]) rfl rfl rfl rfl ?_
      refine ax_s (pc' := 34) (st' := [.int 999, .int ((S 293 0) + p)]) rfl rfl rfl rfl ?_
      refine ax_cmp_le rfl (fun c3 => ?_) (fun c3 => ?_)
      · exact absurd ⟨c1, c2, c3⟩ hb
      · refine ax_s (pc' := 39) (st' := [.int (-1000003)]) rfl rfl rfl rfl ?_
        refine ax_r rfl rfl rfl ?_
        unfold eg_m_steps at hQ
        rw [if_neg c1, if_pos c2, if_neg c3] at hQ
        exact hQ
    · refine ax_s (pc' := 22) (st' := [.int (-1000001)]) rfl rfl rfl rfl ?_
      refine ax_r rfl rfl rfl ?_
      unfold eg_m_steps at hQ
      rw [if_neg c1, if_neg c2] at hQ
      exact hQ
  · refine ax_s (pc' := 9) (st' := [.int (-1000002)]) rfl rfl rfl rfl ?_
    refine ax_r rfl rfl rfl ?_
    unfold eg_m_steps at hQ
    rw [if_pos c1] at hQ
    exact hQ
theorem wv_k_steps {d : Nat} {X : Nat × (Nat → Int32)} {S : Nat → Nat → Int32} {L : Nat → Int64} {t : Nat} {Q : Option Value → am_H → Prop}  (hg : ¬ (S 20 4) ≤ 0 ∧ (¬ ((nI t) < 1 ∨ 24 < (nI t))) ∧ ((S 20 3) + (nI t)) ≤ 999) (k1 : am_ex (d + 8) 49 46 [some (.ref 5), some (.int (nI t)), some (.int 0)] [] (am_hh X S L) Q) : am_mt (d + 8) 49 [.ref 5, .int (nI t)] (am_hh X S L) Q := by
  refine ax_in (ls := [some (.ref 5), some (.int (nI t)), none]) rfl ?_
  refine ax_s (pc' := 1) (st' := [.ref 5]) rfl rfl rfl rfl ?_
  refine ax_get rfl (hh_5 _ _ _) rfl rfl rfl ?_
  show am_ex (d + 8) 49 4 [some (.ref 5), some (.int (nI t)), none] [.ref 20] (am_hh X S L) _
  refine ax_call (vs := [.ref 20]) (rr := []) rfl rfl rfl ?_
  refine kw (am_hh_sub isW20 X S L) (am_hh_sub isW20 X S L).symm (fun _ => ct_stands (am_isW_k isW20 X S L)) ?_
  show am_ex (d + 8) 49 7 [some (.ref 5), some (.int (nI t)), none] [.int (bI (decide (¬ (S 20 4) ≤ 0)))] (am_hh X S L) _
  refine ax_qT rfl (fun c1 => ?_) (fun c1 => ?_)
  · refine ax_s (pc' := 14) (st' := [.int (nI t)]) rfl rfl rfl rfl ?_
    refine ax_s (pc' := 15) (st' := [.int 1, .int (nI t)]) rfl rfl rfl rfl ?_
    refine ax_s (pc' := 17) (st' := [.int 24, .int 1, .int (nI t)]) rfl rfl rfl rfl ?_
    refine ax_call (vs := [.int (nI t), .int 1, .int 24]) (rr := []) rfl rfl rfl ?_
    refine ct_isOutside ?_
    show am_ex (d + 8) 49 20 [some (.ref 5), some (.int (nI t)), none] [.int (bI (decide ((nI t) < 1 ∨ 24 < (nI t))))] (am_hh X S L) _
    refine ax_pF rfl (fun c2 => ?_) (fun c2 => ?_)
    · refine ax_s (pc' := 27) (st' := [.ref 5]) rfl rfl rfl rfl ?_
      refine ax_get rfl (hh_5 _ _ _) rfl rfl rfl ?_
      show am_ex (d + 8) 49 30 [some (.ref 5), some (.int (nI t)), none] [.ref 20] (am_hh X S L) _
      refine ax_get rfl (hh_20 _ _ _) rfl rfl rfl ?_
      show am_ex (d + 8) 49 33 [some (.ref 5), some (.int (nI t)), none] [.int (S 20 3)] (am_hh X S L) _
      refine ax_s (pc' := 34) (st' := [.int (nI t), .int (S 20 3)]) rfl rfl rfl rfl ?_
      refine ax_s (pc' := 35) (st' := [.int ((S 20 3) + (nI t))]) rfl rfl rfl rfl ?_
      refine ax_s (pc' := 38) (st' := [.int 999, .int ((S 20 3) + (nI t))]) rfl rfl rfl rfl ?_
      refine ax_cmp_le rfl (fun c3 => ?_) (fun c3 => ?_)
      · refine ax_s (pc' := 45) (st' := [.int 0]) rfl rfl rfl rfl ?_
        refine ax_s (pc' := 46) (ls' := [some (.ref 5), some (.int (nI t)), some (.int 0)]) (st' := []) rfl rfl rfl rfl ?_
        exact k1
      · refine ax_s (pc' := 43) (st' := [.int (-1000003)]) rfl rfl rfl rfl ?_
        refine ax_r rfl rfl rfl ?_
        first | exact absurd (hg.2.2) c3 | exact absurd c3 (hg.2.2) | exact absurd (hg.2.2) (ne_true_of_eq_false c3)
    · refine ax_s (pc' := 25) (st' := [.int (-1000001)]) rfl rfl rfl rfl ?_
      refine ax_r rfl rfl rfl ?_
      first | exact absurd (hg.2.1) c2 | exact absurd c2 (hg.2.1) | exact absurd (hg.2.1) (ne_true_of_eq_false c2)
  · refine ax_s (pc' := 12) (st' := [.int (-1000002)]) rfl rfl rfl rfl ?_
    refine ax_r rfl rfl rfl ?_
    first | exact absurd (hg.1) c1 | exact absurd c1 (hg.1) | exact absurd (hg.1) (ne_true_of_eq_false c1)
theorem wv_m_steps {d : Nat} {X : Nat × (Nat → Int32)} {S : Nat → Nat → Int32} {L : Nat → Int64} {t : Nat} {Q : Option Value → am_H → Prop}  (hg : ¬ ((S 285 8) = 0) ∧ (¬ (nI t) < 1 ∧ ¬ 24 < (nI t)) ∧ ((S 293 0) + (nI t)) ≤ 999) (k1 : am_ex (d + 8) 170 42 [some (.ref 285), some (.int (nI t)), some (.int 0)] [] (am_hh X S L) Q) : am_mt (d + 8) 170 [.ref 285, .int (nI t)] (am_hh X S L) Q := by
  refine ax_in (ls := [some (.ref 285), some (.int (nI t)), none]) rfl ?_
  refine ax_s (pc' := 1) (st' := [.ref 285]) rfl rfl rfl rfl ?_
  refine ax_call (vs := [.ref 285]) (rr := []) rfl rfl rfl ?_
  refine mt_isNone  ?_
  show am_ex (d + 8) 170 4 [some (.ref 285), some (.int (nI t)), none] [.int (bI (decide ((S 285 8) = 0)))] (am_hh X S L) _
  refine ax_pF rfl (fun c1 => ?_) (fun c1 => ?_)
  · refine ax_s (pc' := 11) (st' := [.int (nI t)]) rfl rfl rfl rfl ?_
    refine ax_s (pc' := 12) (st' := [.int 1, .int (nI t)]) rfl rfl rfl rfl ?_
    refine ax_s (pc' := 14) (st' := [.int 24, .int 1, .int (nI t)]) rfl rfl rfl rfl ?_
    refine ax_call (vs := [.int (nI t), .int 1, .int 24]) (rr := []) rfl rfl rfl ?_
    refine mt_in ?_
    show am_ex (d + 8) 170 17 [some (.ref 285), some (.int (nI t)), none] [.int (bI (decide (¬ (nI t) < 1 ∧ ¬ 24 < (nI t))))] (am_hh X S L) _
    refine ax_pT rfl (fun c2 => ?_) (fun c2 => ?_)
    · refine ax_s (pc' := 24) (st' := [.ref 285]) rfl rfl rfl rfl ?_
      refine ax_get rfl (hh_285 _ _ _) rfl rfl rfl ?_
      show am_ex (d + 8) 170 27 [some (.ref 285), some (.int (nI t)), none] [.ref 293] (am_hh X S L) _
      refine ax_s (pc' := 28) (st' := [.int 0, .ref 293]) rfl rfl rfl rfl ?_
      refine ax_ald (j := 0) (v := (S 293 0)) rfl (hh_293 _ _ _) rfl rfl (by decide) (by decide) rfl ?_
      refine ax_s (pc' := 30) (st' := [.int (nI t), .int (S 293 0)]) rfl rfl rfl rfl ?_
      refine ax_s (pc' := 31) (st' := [.int ((S 293 0) + (nI t))]) rfl rfl rfl rfl ?_
      refine ax_s (pc' := 34) (st' := [.int 999, .int ((S 293 0) + (nI t))]) rfl rfl rfl rfl ?_
      refine ax_cmp_le rfl (fun c3 => ?_) (fun c3 => ?_)
      · refine ax_s (pc' := 41) (st' := [.int 0]) rfl rfl rfl rfl ?_
        refine ax_s (pc' := 42) (ls' := [some (.ref 285), some (.int (nI t)), some (.int 0)]) (st' := []) rfl rfl rfl rfl ?_
        exact k1
      · refine ax_s (pc' := 39) (st' := [.int (-1000003)]) rfl rfl rfl rfl ?_
        refine ax_r rfl rfl rfl ?_
        first | exact absurd (hg.2.2) c3 | exact absurd c3 (hg.2.2) | exact absurd (hg.2.2) (ne_true_of_eq_false c3)
    · refine ax_s (pc' := 22) (st' := [.int (-1000001)]) rfl rfl rfl rfl ?_
      refine ax_r rfl rfl rfl ?_
      first | exact absurd (hg.2.1) c2 | exact absurd c2 (hg.2.1) | exact absurd (hg.2.1) (ne_true_of_eq_false c2)
  · refine ax_s (pc' := 9) (st' := [.int (-1000002)]) rfl rfl rfl rfl ?_
    refine ax_r rfl rfl rfl ?_
    first | exact absurd (hg.1) c1 | exact absurd c1 (hg.1) | exact absurd (hg.1) (ne_true_of_eq_false c1)
theorem wl_k_steps {d : Nat} {X : Nat × (Nat → Int32)} {S : Nat → Nat → Int32} {L : Nat → Int64} {m k t i g n : Nat} {Q : Option Value → am_H → Prop} (hm24 : m < 24) (hk24 : k ≤ 24) (hm : S 38 1 = nI m) (hk : S 38 2 = nI k) (hc2 : w_cl (am_sub S (40 + 9 * m))) (hc0 : w_cl (am_sub S 20)) (hf : wF (am_sub S 20) g n)  (k1 : (nI t) ≤ (nI i) → Q (some (.int (w_wh (am_sub S 20) 2 n 0 0))) (am_hh X S L)) (k2 : ¬ (nI t) ≤ (nI i) → ∀ S2 : Nat → Nat → Int32, am_sub S2 (40 + 9 * m) = am_sub S 20 → (∀ a, ¬ (40 + 9 * m ≤ a ∧ a < 49 + 9 * m) → a ≠ 38 → a ≠ 277 → S2 a = S a) → S2 38 1 = nI ((m + 1) % 24) → S2 38 2 = nI (min (k + 1) 24) → S2 277 3 = 0 → am_ex (d + 8) 49 46 [some (.ref 5), some (.int (nI t)), some (.int (nI (i + 1)))] [] (am_hh X (am_ovl S2 20 (w_ms (am_sub S2 20) rk0 g n)) L) Q) : am_ex (d + 8) 49 46 [some (.ref 5), some (.int (nI t)), some (.int (nI i))] [] (am_hh X S L) Q := by
  refine ax_s (pc' := 47) (st' := [.int (nI i)]) rfl rfl rfl rfl ?_
  refine ax_s (pc' := 48) (st' := [.int (nI t), .int (nI i)]) rfl rfl rfl rfl ?_
  refine ax_cmp_ge rfl (fun c1 => ?_) (fun c1 => ?_)
  · refine ax_s (pc' := 73) (st' := [.ref 5]) rfl rfl rfl rfl ?_
    refine ax_get rfl (hh_5 _ _ _) rfl rfl rfl ?_
    show am_ex (d + 8) 49 76 [some (.ref 5), some (.int (nI t)), some (.int (nI i))] [.ref 20] (am_hh X S L) _
    refine ax_s (pc' := 77) (st' := [.int 2, .ref 20]) rfl rfl rfl rfl ?_
    refine ax_call (vs := [.ref 20, .int 2]) (rr := []) rfl rfl rfl ?_
    refine kw (am_hh_sub isW20 X S L) (am_hh_sub isW20 X S L).symm (fun _ => ct_whichAre (am_isW_k isW20 X S L) hf.1 hf.2.1) ?_
    show am_ex (d + 8) 49 80 [some (.ref 5), some (.int (nI t)), some (.int (nI i))] [.int (w_wh (am_sub S 20) 2 n 0 0)] (am_hh X S L) _
    refine ax_r rfl rfl rfl ?_
    exact k1 c1
  · refine ax_s (pc' := 52) (st' := [.ref 5]) rfl rfl rfl rfl ?_
    refine ax_call (vs := [.ref 5]) (rr := []) rfl rfl rfl ?_
    refine kt_keep hm24 hk24 hm hk hc2 hc0 (fun S2 a21 a22 a23 a24 a25 => ?_)
    show am_ex (d + 8) 49 55 [some (.ref 5), some (.int (nI t)), some (.int (nI i))] [] (am_hh X S2 L) _
    refine ax_s (pc' := 56) (st' := [.ref 5]) rfl rfl rfl rfl ?_
    refine ax_get rfl (hh_5 _ _ _) rfl rfl rfl ?_
    show am_ex (d + 8) 49 59 [some (.ref 5), some (.int (nI t)), some (.int (nI i))] [.ref 20] (am_hh X S2 L) _
    refine ax_s (pc' := 62) (st' := [.ref 1, .ref 20]) rfl rfl rfl rfl ?_
    refine ax_call (vs := [.ref 20, .ref 1]) (rr := []) rfl rfl rfl ?_
    refine kw (am_hh_sub isW20 X S2 L) (am_hh_ov isW20 X S2 L _) (fun _ => ct_makeStep (rk := rk0) (am_isW_k isW20 X S2 L) (show wF (am_sub S2 20) g n from (wF_keep hf (by omega) a22)).1 (show wF (am_sub S2 20) g n from (wF_keep hf (by omega) a22)).2.1 (show wF (am_sub S2 20) g n from (wF_keep hf (by omega) a22)).2.2.1 (show wF (am_sub S2 20) g n from (wF_keep hf (by omega) a22)).2.2.2 (hh_s1 _ _ _) (by decide) (show 1 < 301 + 5 by decide)) ?_
    show am_ex (d + 8) 49 65 [some (.ref 5), some (.int (nI t)), some (.int (nI i))] [.int (bI (w_mb (am_sub S2 20) rk0 g n))] (am_hh X (am_ovl S2 20 (w_ms (am_sub S2 20) rk0 g n)) L) _
    refine ax_s (pc' := 66) (st' := []) rfl rfl rfl rfl ?_
    refine ax_s (pc' := 69) (ls' := [some (.ref 5), some (.int (nI t)), some (.int ((nI i) + 1))]) (st' := []) rfl rfl rfl rfl ?_
    rw [nI_1]
    refine ax_s (pc' := 46) (st' := []) rfl rfl rfl rfl ?_
    exact k2 c1 S2 a21 a22 a23 a24 a25
theorem wl_m_steps {d : Nat} {X : Nat × (Nat → Int32)} {S : Nat → Nat → Int32} {L : Nat → Int64} {k t i g n : Nat} {Q : Option Value → am_H → Prop} (hk24 : k ≤ 24) (hk : S 285 14 = nI k) (hF : mF S g n)  (k1 : (nI t) ≤ (nI i) → Q (some (.int (m_th S 293 2 n 0 0))) (am_hh X S L)) (k2 : ¬ (nI t) ≤ (nI i) → ∀ S2 : Nat → Nat → Int32, (∀ a, a ≠ 285 → a ≠ 294 → S2 a = S a) → (∀ i, i ≠ 14 → S2 285 i = S 285 i) → S2 285 14 = nI (min (k + 1) 24) → (∀ q y, q < min (k + 1) 24 → y < 39 → S2 294 (39 * q + y) = if q + (k + 1 - min (k + 1) 24) < k then S 294 (39 * (q + (k + 1 - min (k + 1) 24)) + y) else S 293 y) → am_ex (d + 8) 170 42 [some (.ref 285), some (.int (nI t)), some (.int (nI (i + 1)))] [] (am_hh X (m_step S2 293 g n) L) Q) : am_ex (d + 8) 170 42 [some (.ref 285), some (.int (nI t)), some (.int (nI i))] [] (am_hh X S L) Q := by
  refine ax_s (pc' := 43) (st' := [.int (nI i)]) rfl rfl rfl rfl ?_
  refine ax_s (pc' := 44) (st' := [.int (nI t), .int (nI i)]) rfl rfl rfl rfl ?_
  refine ax_cmp_ge rfl (fun c1 => ?_) (fun c1 => ?_)
  · refine ax_s (pc' := 67) (st' := [.ref 285]) rfl rfl rfl rfl ?_
    refine ax_s (pc' := 68) (st' := [.ref 285, .ref 285]) rfl rfl rfl rfl ?_
    refine ax_get rfl (hh_285 _ _ _) rfl rfl rfl ?_
    show am_ex (d + 8) 170 71 [some (.ref 285), some (.int (nI t)), some (.int (nI i))] [.ref 293, .ref 285] (am_hh X S L) _
    refine ax_s (pc' := 72) (st' := [.int 2, .ref 293, .ref 285]) rfl rfl rfl rfl ?_
    refine ax_call (vs := [.ref 285, .ref 293, .int 2]) (rr := []) rfl rfl rfl ?_
    refine mt_those hF.1.1 hF.1.2 (Or.inl rfl) ?_
    show am_ex (d + 8) 170 75 [some (.ref 285), some (.int (nI t)), some (.int (nI i))] [.int (m_th S 293 2 n 0 0)] (am_hh X S L) _
    refine ax_r rfl rfl rfl ?_
    exact k1 c1
  · refine ax_s (pc' := 48) (st' := [.ref 285]) rfl rfl rfl rfl ?_
    refine ax_call (vs := [.ref 285]) (rr := []) rfl rfl rfl ?_
    refine kt_notes hk24 hk (fun S2 b21 b22 b23 b24 => ?_)
    show am_ex (d + 8) 170 51 [some (.ref 285), some (.int (nI t)), some (.int (nI i))] [] (am_hh X S2 L) _
    refine ax_s (pc' := 52) (st' := [.ref 285]) rfl rfl rfl rfl ?_
    refine ax_s (pc' := 53) (st' := [.ref 285, .ref 285]) rfl rfl rfl rfl ?_
    refine ax_get rfl (hh_285 _ _ _) rfl rfl rfl ?_
    show am_ex (d + 8) 170 56 [some (.ref 285), some (.int (nI t)), some (.int (nI i))] [.ref 293, .ref 285] (am_hh X S2 L) _
    refine ax_call (vs := [.ref 285, .ref 293]) (rr := []) rfl rfl rfl ?_
    refine mt_stepOn_293 (mF_notes hF b21 b22).1.1 (mF_notes hF b21 b22).1.2 (mF_notes hF b21 b22).2.1.1 (mF_notes hF b21 b22).2.1.2.1 (mF_notes hF b21 b22).2.1.2.2 (mF_notes hF b21 b22).2.2 ?_
    show am_ex (d + 8) 170 59 [some (.ref 285), some (.int (nI t)), some (.int (nI i))] [.int (bI (!m_sb S2 293 g n))] (am_hh X (m_step S2 293 g n) L) _
    refine ax_s (pc' := 60) (st' := []) rfl rfl rfl rfl ?_
    refine ax_s (pc' := 63) (ls' := [some (.ref 285), some (.int (nI t)), some (.int ((nI i) + 1))]) (st' := []) rfl rfl rfl rfl ?_
    rw [nI_1]
    refine ax_s (pc' := 42) (st' := []) rfl rfl rfl rfl ?_
    exact k2 c1 S2 b21 b22 b23 b24
