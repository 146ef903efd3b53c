def g_k_turnTo (S : Nat → Nat → Int32) (p : Int32) : Prop := (¬ p < 0 ∧ ¬ (S 20 0) ≤ p) ∧ ¬ p = (S 20 2)
def eg_k_turnTo (S : Nat → Nat → Int32) (p : Int32) : Int32 := (if ¬ p < 0 ∧ ¬ (S 20 0) ≤ p then (if p = (S 20 2) then (-1000002) else 0) else (-1000001))
theorem wg_k_turnTo {d : Nat} {X : Nat × (Nat → Int32)} {S : Nat → Nat → Int32} {L : Nat → Int64} {p : Int32} {Q : Option Value → am_H → Prop}   (hb : ¬ g_k_turnTo S p) (hQ : Q (some (.int (eg_k_turnTo S p))) (am_hh X S L)) : am_mt (d + 8) 69 [.ref 5, .int p] (am_hh X S L) Q := by
  refine ax_in (ls := [some (.ref 5), some (.int p), none]) rfl ?_
  refine ax_s (pc' := 1) (st' := [.ref 5]) rfl rfl rfl rfl ?_
  refine ax_get rfl (hh_5 _ _ _) rfl rfl rfl ?_
  show am_ex (d + 8) 69 4 [some (.ref 5), some (.int p), none] [.ref 20] (am_hh X S L) _
  refine ax_s (pc' := 5) (st' := [.int p, .ref 20]) rfl rfl rfl rfl ?_
  refine ax_call (vs := [.ref 20, .int p]) (rr := []) rfl rfl rfl ?_
  refine kw (am_hh_sub isW20 X S L) (am_hh_sub isW20 X S L).symm (fun _ => ct_hasGondola (am_isW_k isW20 X S L)) ?_
  show am_ex (d + 8) 69 8 [some (.ref 5), some (.int p), none] [.int (bI (decide (¬ p < 0 ∧ ¬ (S 20 0) ≤ p)))] (am_hh X S L) _
  refine ax_pT rfl (fun c1 => ?_) (fun c1 => ?_)
  · refine ax_s (pc' := 15) (st' := [.int p]) rfl rfl rfl rfl ?_
    refine ax_s (pc' := 16) (st' := [.ref 5, .int p]) rfl rfl rfl rfl ?_
    refine ax_get rfl (hh_5 _ _ _) rfl rfl rfl ?_
    show am_ex (d + 8) 69 19 [some (.ref 5), some (.int p), none] [.ref 20, .int p] (am_hh X S L) _
    refine ax_get rfl (hh_20 _ _ _) rfl rfl rfl ?_
    show am_ex (d + 8) 69 22 [some (.ref 5), some (.int p), none] [.int (S 20 2), .int p] (am_hh X S L) _
    refine ax_cmp_ne rfl (fun c2 => ?_) (fun c2 => ?_)
    · exact absurd ⟨c1, c2⟩ hb
    · refine ax_s (pc' := 27) (st' := [.int (-1000002)]) rfl rfl rfl rfl ?_
      refine ax_r rfl rfl rfl ?_
      unfold eg_k_turnTo at hQ
      rw [if_pos c1, if_pos c2] at hQ
      exact hQ
  · refine ax_s (pc' := 13) (st' := [.int (-1000001)]) rfl rfl rfl rfl ?_
    refine ax_r rfl rfl rfl ?_
    unfold eg_k_turnTo at hQ
    rw [if_neg c1] at hQ
    exact hQ
def g_m_turnTo (S : Nat → Nat → Int32) (p : Int32) : Prop := (¬ p < 0 ∧ ¬ (S 285 8) - 1 < p) ∧ ¬ (S 293 1) = p
def eg_m_turnTo (S : Nat → Nat → Int32) (p : Int32) : Int32 := (if ¬ p < 0 ∧ ¬ (S 285 8) - 1 < p then (if (S 293 1) = p then (-1000002) else 0) else (-1000001))
theorem wg_m_turnTo {d : Nat} {X : Nat × (Nat → Int32)} {S : Nat → Nat → Int32} {L : Nat → Int64} {p : Int32} {Q : Option Value → am_H → Prop}   (hb : ¬ g_m_turnTo S p) (hQ : Q (some (.int (eg_m_turnTo S p))) (am_hh X S L)) : am_mt (d + 8) 184 [.ref 285, .int p] (am_hh X S L) Q := by
  refine ax_in (ls := [some (.ref 285), some (.int p), none]) rfl ?_
  refine ax_s (pc' := 1) (st' := [.ref 285]) rfl rfl rfl rfl ?_
  refine ax_s (pc' := 2) (st' := [.int p, .ref 285]) rfl rfl rfl rfl ?_
  refine ax_call (vs := [.ref 285, .int p]) (rr := []) rfl rfl rfl ?_
  refine mt_isGondola  ?_
  show am_ex (d + 8) 184 5 [some (.ref 285), some (.int p), none] [.int (bI (decide (¬ p < 0 ∧ ¬ (S 285 8) - 1 < p)))] (am_hh X S L) _
  refine ax_pT rfl (fun c1 => ?_) (fun c1 => ?_)
  · refine ax_s (pc' := 12) (st' := [.ref 285]) rfl rfl rfl rfl ?_
    refine ax_get rfl (hh_285 _ _ _) rfl rfl rfl ?_
    show am_ex (d + 8) 184 15 [some (.ref 285), some (.int p), none] [.ref 293] (am_hh X S L) _
    refine ax_s (pc' := 16) (st' := [.int 1, .ref 293]) rfl rfl rfl rfl ?_
    refine ax_ald (j := 1) (v := (S 293 1)) rfl (hh_293 _ _ _) rfl rfl (by decide) (by decide) rfl ?_
    refine ax_s (pc' := 18) (st' := [.int p, .int (S 293 1)]) rfl rfl rfl rfl ?_
    refine ax_cmp_ne rfl (fun c2 => ?_) (fun c2 => ?_)
    · exact absurd ⟨c1, c2⟩ hb
    · refine ax_s (pc' := 23) (st' := [.int (-1000002)]) rfl rfl rfl rfl ?_
      refine ax_r rfl rfl rfl ?_
      unfold eg_m_turnTo at hQ
      rw [if_pos c1, if_pos c2] at hQ
      exact hQ
  · refine ax_s (pc' := 10) (st' := [.int (-1000001)]) rfl rfl rfl rfl ?_
    refine ax_r rfl rfl rfl ?_
    unfold eg_m_turnTo at hQ
    rw [if_neg c1] at hQ
    exact hQ
theorem wv_k_turnTo {d : Nat} {X : Nat × (Nat → Int32)} {S : Nat → Nat → Int32} {L : Nat → Int64} {m k j : Nat} {Q : Option Value → am_H → Prop} (hm24 : m < 24) (hk24 : k ≤ 24) (hm : S 38 1 = nI m) (hk : S 38 2 = nI k) (hc2 : w_cl (am_sub S (40 + 9 * m))) (hc0 : w_cl (am_sub S 20))  (hg : (¬ (nI j) < 0 ∧ ¬ (S 20 0) ≤ (nI j)) ∧ ¬ (nI j) = (S 20 2)) (k1 : ∀ S3 : Nat → Nat → Int32, am_sub S3 (40 + 9 * m) = am_sub S 20 → (∀ a, ¬ (40 + 9 * m ≤ a ∧ a < 49 + 9 * m) → a ≠ 38 → a ≠ 277 → S3 a = S a) → S3 38 1 = nI ((m + 1) % 24) → S3 38 2 = nI (min (k + 1) 24) → S3 277 3 = 0 → Q (some (.int (S3 20 2))) (am_hh X (am_u S3 20 2 (nI j)) L)) : am_mt (d + 8) 69 [.ref 5, .int (nI j)] (am_hh X S L) Q := by
  refine ax_in (ls := [some (.ref 5), some (.int (nI j)), none]) rfl ?_
  refine ax_s (pc' := 1) (st' := [.ref 5]) rfl rfl rfl rfl ?_
  refine ax_get rfl (hh_5 _ _ _) rfl rfl rfl ?_
  show am_ex (d + 8) 69 4 [some (.ref 5), some (.int (nI j)), none] [.ref 20] (am_hh X S L) _
  refine ax_s (pc' := 5) (st' := [.int (nI j), .ref 20]) rfl rfl rfl rfl ?_
  refine ax_call (vs := [.ref 20, .int (nI j)]) (rr := []) rfl rfl rfl ?_
  refine kw (am_hh_sub isW20 X S L) (am_hh_sub isW20 X S L).symm (fun _ => ct_hasGondola (am_isW_k isW20 X S L)) ?_
  show am_ex (d + 8) 69 8 [some (.ref 5), some (.int (nI j)), none] [.int (bI (decide (¬ (nI j) < 0 ∧ ¬ (S 20 0) ≤ (nI j))))] (am_hh X S L) _
  refine ax_pT rfl (fun c1 => ?_) (fun c1 => ?_)
  · refine ax_s (pc' := 15) (st' := [.int (nI j)]) rfl rfl rfl rfl ?_
    refine ax_s (pc' := 16) (st' := [.ref 5, .int (nI j)]) rfl rfl rfl rfl ?_
    refine ax_get rfl (hh_5 _ _ _) rfl rfl rfl ?_
    show am_ex (d + 8) 69 19 [some (.ref 5), some (.int (nI j)), none] [.ref 20, .int (nI j)] (am_hh X S L) _
    refine ax_get rfl (hh_20 _ _ _) rfl rfl rfl ?_
    show am_ex (d + 8) 69 22 [some (.ref 5), some (.int (nI j)), none] [.int (S 20 2), .int (nI j)] (am_hh X S L) _
    refine ax_cmp_ne rfl (fun c2 => ?_) (fun c2 => ?_)
    · refine ax_s (pc' := 29) (st' := [.ref 5]) rfl rfl rfl rfl ?_
      refine ax_call (vs := [.ref 5]) (rr := []) rfl rfl rfl ?_
      refine kt_keep hm24 hk24 hm hk hc2 hc0 (fun S3 a31 a32 a33 a34 a35 => ?_)
      show am_ex (d + 8) 69 32 [some (.ref 5), some (.int (nI j)), none] [] (am_hh X S3 L) _
      refine ax_s (pc' := 33) (st' := [.ref 5]) rfl rfl rfl rfl ?_
      refine ax_get rfl (hh_5 _ _ _) rfl rfl rfl ?_
      show am_ex (d + 8) 69 36 [some (.ref 5), some (.int (nI j)), none] [.ref 20] (am_hh X S3 L) _
      refine ax_get rfl (hh_20 _ _ _) rfl rfl rfl ?_
      show am_ex (d + 8) 69 39 [some (.ref 5), some (.int (nI j)), none] [.int (S3 20 2)] (am_hh X S3 L) _
      refine ax_s (pc' := 40) (ls' := [some (.ref 5), some (.int (nI j)), some (.int (S3 20 2))]) (st' := []) rfl rfl rfl rfl ?_
      refine ax_s (pc' := 41) (st' := [.ref 5]) rfl rfl rfl rfl ?_
      refine ax_get rfl (hh_5 _ _ _) rfl rfl rfl ?_
      show am_ex (d + 8) 69 44 [some (.ref 5), some (.int (nI j)), some (.int (S3 20 2))] [.ref 20] (am_hh X S3 L) _
      refine ax_s (pc' := 45) (st' := [.int (nI j), .ref 20]) rfl rfl rfl rfl ?_
      refine ax_put rfl (hh_20 _ _ _) rfl rfl (show 2 + 1 ≤ _ from Nat.le_of_ble_eq_true rfl) rfl (am_hh_set _ _ _ 20 2 _ rfl) ?_
      refine ax_s (pc' := 49) (st' := [.int (S3 20 2)]) rfl rfl rfl rfl ?_
      refine ax_r rfl rfl rfl ?_
      exact k1 S3 a31 a32 a33 a34 a35
    · refine ax_s (pc' := 27) (st' := [.int (-1000002)]) rfl rfl rfl rfl ?_
      refine ax_r rfl rfl rfl ?_
      first | exact absurd (hg.2) c2 | exact absurd c2 (hg.2) | exact absurd (hg.2) (ne_true_of_eq_false c2)
  · refine ax_s (pc' := 13) (st' := [.int (-1000001)]) rfl rfl rfl rfl ?_
    refine ax_r rfl rfl rfl ?_
    first | exact absurd (hg.1) c1 | exact absurd c1 (hg.1) | exact absurd (hg.1) (ne_true_of_eq_false c1)
theorem wv_m_turnTo {d : Nat} {X : Nat × (Nat → Int32)} {S : Nat → Nat → Int32} {L : Nat → Int64} {k j : Nat} {Q : Option Value → am_H → Prop} (hk24 : k ≤ 24) (hk : S 285 14 = nI k)  (hg : (¬ (nI j) < 0 ∧ ¬ (S 285 8) - 1 < (nI j)) ∧ ¬ (S 293 1) = (nI j)) (k1 : ∀ S3 : Nat → Nat → Int32, (∀ a, a ≠ 285 → a ≠ 294 → S3 a = S a) → (∀ i, i ≠ 14 → S3 285 i = S 285 i) → S3 285 14 = nI (min (k + 1) 24) → (∀ q y, q < min (k + 1) 24 → y < 39 → S3 294 (39 * q + y) = if q + (k + 1 - min (k + 1) 24) < k then S 294 (39 * (q + (k + 1 - min (k + 1) 24)) + y) else S 293 y) → Q (some (.int (S 293 1))) (am_hh X (am_u S3 293 1 (nI j)) L)) : am_mt (d + 8) 184 [.ref 285, .int (nI j)] (am_hh X S L) Q := by
  refine ax_in (ls := [some (.ref 285), some (.int (nI j)), none]) rfl ?_
  refine ax_s (pc' := 1) (st' := [.ref 285]) rfl rfl rfl rfl ?_
  refine ax_s (pc' := 2) (st' := [.int (nI j), .ref 285]) rfl rfl rfl rfl ?_
  refine ax_call (vs := [.ref 285, .int (nI j)]) (rr := []) rfl rfl rfl ?_
  refine mt_isGondola  ?_
  show am_ex (d + 8) 184 5 [some (.ref 285), some (.int (nI j)), none] [.int (bI (decide (¬ (nI j) < 0 ∧ ¬ (S 285 8) - 1 < (nI j))))] (am_hh X S L) _
  refine ax_pT rfl (fun c1 => ?_) (fun c1 => ?_)
  · refine ax_s (pc' := 12) (st' := [.ref 285]) rfl rfl rfl rfl ?_
    refine ax_get rfl (hh_285 _ _ _) rfl rfl rfl ?_
    show am_ex (d + 8) 184 15 [some (.ref 285), some (.int (nI j)), none] [.ref 293] (am_hh X S L) _
    refine ax_s (pc' := 16) (st' := [.int 1, .ref 293]) rfl rfl rfl rfl ?_
    refine ax_ald (j := 1) (v := (S 293 1)) rfl (hh_293 _ _ _) rfl rfl (by decide) (by decide) rfl ?_
    refine ax_s (pc' := 18) (st' := [.int (nI j), .int (S 293 1)]) rfl rfl rfl rfl ?_
    refine ax_cmp_ne rfl (fun c2 => ?_) (fun c2 => ?_)
    · refine ax_s (pc' := 25) (st' := [.ref 285]) rfl rfl rfl rfl ?_
      refine ax_get rfl (hh_285 _ _ _) rfl rfl rfl ?_
      show am_ex (d + 8) 184 28 [some (.ref 285), some (.int (nI j)), none] [.ref 293] (am_hh X S L) _
      refine ax_s (pc' := 29) (st' := [.int 1, .ref 293]) rfl rfl rfl rfl ?_
      refine ax_ald (j := 1) (v := (S 293 1)) rfl (hh_293 _ _ _) rfl rfl (by decide) (by decide) rfl ?_
      refine ax_s (pc' := 31) (ls' := [some (.ref 285), some (.int (nI j)), some (.int (S 293 1))]) (st' := []) rfl rfl rfl rfl ?_
      refine ax_s (pc' := 32) (st' := [.ref 285]) rfl rfl rfl rfl ?_
      refine ax_call (vs := [.ref 285]) (rr := []) rfl rfl rfl ?_
      refine kt_notes hk24 hk (fun S3 b31 b32 b33 b34 => ?_)
      show am_ex (d + 8) 184 35 [some (.ref 285), some (.int (nI j)), some (.int (S 293 1))] [] (am_hh X S3 L) _
      refine ax_s (pc' := 36) (st' := [.ref 285]) rfl rfl rfl rfl ?_
      refine ax_get rfl (hh_285 _ _ _) rfl rfl rfl ?_
      show am_ex (d + 8) 184 39 [some (.ref 285), some (.int (nI j)), some (.int (S 293 1))] [.ref 293] (am_hh X S3 L) _
      refine ax_s (pc' := 40) (st' := [.int 1, .ref 293]) rfl rfl rfl rfl ?_
      refine ax_s (pc' := 41) (st' := [.int (nI j), .int 1, .ref 293]) rfl rfl rfl rfl ?_
      refine ax_ast (j := 1) rfl (hh_293 _ _ _) rfl rfl (by decide) (by decide) (am_hh_set _ _ _ 293 1 _ rfl) ?_
      refine ax_s (pc' := 43) (st' := [.int (S 293 1)]) rfl rfl rfl rfl ?_
      refine ax_r rfl rfl rfl ?_
      exact k1 S3 b31 b32 b33 b34
    · refine ax_s (pc' := 23) (st' := [.int (-1000002)]) rfl rfl rfl rfl ?_
      refine ax_r rfl rfl rfl ?_
      first | exact absurd (hg.2) c2 | exact absurd c2 (hg.2) | exact absurd (hg.2) (ne_true_of_eq_false c2)
  · refine ax_s (pc' := 10) (st' := [.int (-1000001)]) rfl rfl rfl rfl ?_
    refine ax_r rfl rfl rfl ?_
    first | exact absurd (hg.1) c1 | exact absurd c1 (hg.1) | exact absurd (hg.1) (ne_true_of_eq_false c1)
def g_k_ballast (S : Nat → Nat → Int32) (p q : Int32) : Prop := (¬ p < 0 ∧ ¬ (S 20 0) ≤ p) ∧ (¬ (q < 0 ∨ 9 < q))
def eg_k_ballast (S : Nat → Nat → Int32) (p q : Int32) : Int32 := (if ¬ p < 0 ∧ ¬ (S 20 0) ≤ p then (if q < 0 ∨ 9 < q then (-1000001) else 0) else (-1000001))
theorem wg_k_ballast {d : Nat} {X : Nat × (Nat → Int32)} {S : Nat → Nat → Int32} {L : Nat → Int64} {p q : Int32} {Q : Option Value → am_H → Prop}   (hb : ¬ g_k_ballast S p q) (hQ : Q (some (.int (eg_k_ballast S p q))) (am_hh X S L)) : am_mt (d + 8) 71 [.ref 5, .int p, .int q] (am_hh X S L) Q := by
  refine ax_in (ls := [some (.ref 5), some (.int p), some (.int q), none]) rfl ?_
  refine ax_s (pc' := 1) (st' := [.ref 5]) rfl rfl rfl rfl ?_
  refine ax_get rfl (hh_5 _ _ _) rfl rfl rfl ?_
  show am_ex (d + 8) 71 4 [some (.ref 5), some (.int p), some (.int q), none] [.ref 20] (am_hh X S L) _
  refine ax_s (pc' := 5) (st' := [.int p, .ref 20]) rfl rfl rfl rfl ?_
  refine ax_call (vs := [.ref 20, .int p]) (rr := []) rfl rfl rfl ?_
  refine kw (am_hh_sub isW20 X S L) (am_hh_sub isW20 X S L).symm (fun _ => ct_hasGondola (am_isW_k isW20 X S L)) ?_
  show am_ex (d + 8) 71 8 [some (.ref 5), some (.int p), some (.int q), none] [.int (bI (decide (¬ p < 0 ∧ ¬ (S 20 0) ≤ p)))] (am_hh X S L) _
  refine ax_pF rfl (fun c1 => ?_) (fun c1 => ?_)
  · refine ax_s (pc' := 23) (st' := [.int (-1000001)]) rfl rfl rfl rfl ?_
    refine ax_r rfl rfl rfl ?_
    unfold eg_k_ballast at hQ
    rw [if_neg c1] at hQ
    exact hQ
  · refine ax_s (pc' := 12) (st' := [.int q]) rfl rfl rfl rfl ?_
    refine ax_s (pc' := 13) (st' := [.int 0, .int q]) rfl rfl rfl rfl ?_
    refine ax_s (pc' := 15) (st' := [.int 9, .int 0, .int q]) rfl rfl rfl rfl ?_
    refine ax_call (vs := [.int q, .int 0, .int 9]) (rr := []) rfl rfl rfl ?_
    refine ct_isOutside ?_
    show am_ex (d + 8) 71 18 [some (.ref 5), some (.int p), some (.int q), none] [.int (bI (decide (q < 0 ∨ 9 < q)))] (am_hh X S L) _
    refine ax_pF rfl (fun c2 => ?_) (fun c2 => ?_)
    · exact absurd ⟨c1, c2⟩ hb
    · refine ax_s (pc' := 23) (st' := [.int (-1000001)]) rfl rfl rfl rfl ?_
      refine ax_r rfl rfl rfl ?_
      unfold eg_k_ballast at hQ
      rw [if_pos c1, if_pos c2] at hQ
      exact hQ
def g_m_ballast (S : Nat → Nat → Int32) (p q : Int32) : Prop := (¬ p < 0 ∧ ¬ (S 285 8) - 1 < p) ∧ (¬ q < 0 ∧ ¬ 9 < q)
def eg_m_ballast (S : Nat → Nat → Int32) (p q : Int32) : Int32 := (if ¬ p < 0 ∧ ¬ (S 285 8) - 1 < p then (if ¬ q < 0 ∧ ¬ 9 < q then 0 else (-1000001)) else (-1000001))
theorem wg_m_ballast {d : Nat} {X : Nat × (Nat → Int32)} {S : Nat → Nat → Int32} {L : Nat → Int64} {p q : Int32} {Q : Option Value → am_H → Prop}   (hb : ¬ g_m_ballast S p q) (hQ : Q (some (.int (eg_m_ballast S p q))) (am_hh X S L)) : am_mt (d + 8) 186 [.ref 285, .int p, .int q] (am_hh X S L) Q := by
  refine ax_in (ls := [some (.ref 285), some (.int p), some (.int q), none]) rfl ?_
  refine ax_s (pc' := 1) (st' := [.ref 285]) rfl rfl rfl rfl ?_
  refine ax_s (pc' := 2) (st' := [.int p, .ref 285]) rfl rfl rfl rfl ?_
  refine ax_call (vs := [.ref 285, .int p]) (rr := []) rfl rfl rfl ?_
  refine mt_isGondola  ?_
  show am_ex (d + 8) 186 5 [some (.ref 285), some (.int p), some (.int q), none] [.int (bI (decide (¬ p < 0 ∧ ¬ (S 285 8) - 1 < p)))] (am_hh X S L) _
  refine ax_pF rfl (fun c1 => ?_) (fun c1 => ?_)
  · refine ax_s (pc' := 20) (st' := [.int (-1000001)]) rfl rfl rfl rfl ?_
    refine ax_r rfl rfl rfl ?_
    unfold eg_m_ballast at hQ
    rw [if_neg c1] at hQ
    exact hQ
  · refine ax_s (pc' := 9) (st' := [.int q]) rfl rfl rfl rfl ?_
    refine ax_s (pc' := 10) (st' := [.int 0, .int q]) rfl rfl rfl rfl ?_
    refine ax_s (pc' := 12) (st' := [.int 9, .int 0, .int q]) rfl rfl rfl rfl ?_
    refine ax_call (vs := [.int q, .int 0, .int 9]) (rr := []) rfl rfl rfl ?_
    refine mt_in ?_
    show am_ex (d + 8) 186 15 [some (.ref 285), some (.int p), some (.int q), none] [.int (bI (decide (¬ q < 0 ∧ ¬ 9 < q)))] (am_hh X S L) _
    refine ax_pT rfl (fun c2 => ?_) (fun c2 => ?_)
    · exact absurd ⟨c1, c2⟩ hb
    · refine ax_s (pc' := 20) (st' := [.int (-1000001)]) rfl rfl rfl rfl ?_
      refine ax_r rfl rfl rfl ?_
      unfold eg_m_ballast at hQ
      rw [if_pos c1, if_neg c2] at hQ
      exact hQ
theorem wv_k_ballast {d : Nat} {X : Nat × (Nat → Int32)} {S : Nat → Nat → Int32} {L : Nat → Int64} {m k j : Nat} {q : Int32} {Q : Option Value → am_H → Prop} (hm24 : m < 24) (hk24 : k ≤ 24) (hm : S 38 1 = nI m) (hk : S 38 2 = nI k) (hc2 : w_cl (am_sub S (40 + 9 * m))) (hc0 : w_cl (am_sub S 20))  (hg : (¬ (nI j) < 0 ∧ ¬ (S 20 0) ≤ (nI j)) ∧ (¬ (q < 0 ∨ 9 < q))) (x1 : ∀ S3 : Nat → Nat → Int32, am_sub S3 (40 + 9 * m) = am_sub S 20 → (∀ a, ¬ (40 + 9 * m ≤ a ∧ a < 49 + 9 * m) → a ≠ 38 → a ≠ 277 → S3 a = S a) → S3 38 1 = nI ((m + 1) % 24) → S3 38 2 = nI (min (k + 1) 24) → S3 277 3 = 0 → j < 12) (k1 : ∀ S3 : Nat → Nat → Int32, am_sub S3 (40 + 9 * m) = am_sub S 20 → (∀ a, ¬ (40 + 9 * m ≤ a ∧ a < 49 + 9 * m) → a ≠ 38 → a ≠ 277 → S3 a = S a) → S3 38 1 = nI ((m + 1) % 24) → S3 38 2 = nI (min (k + 1) 24) → S3 277 3 = 0 → Q (some (.int (S3 21 j))) (am_hh X (am_u S3 21 j q) L)) : am_mt (d + 8) 71 [.ref 5, .int (nI j), .int q] (am_hh X S L) Q := by
  refine ax_in (ls := [some (.ref 5), some (.int (nI j)), some (.int q), none]) rfl ?_
  refine ax_s (pc' := 1) (st' := [.ref 5]) rfl rfl rfl rfl ?_
  refine ax_get rfl (hh_5 _ _ _) rfl rfl rfl ?_
  show am_ex (d + 8) 71 4 [some (.ref 5), some (.int (nI j)), some (.int q), none] [.ref 20] (am_hh X S L) _
  refine ax_s (pc' := 5) (st' := [.int (nI j), .ref 20]) rfl rfl rfl rfl ?_
  refine ax_call (vs := [.ref 20, .int (nI j)]) (rr := []) rfl rfl rfl ?_
  refine kw (am_hh_sub isW20 X S L) (am_hh_sub isW20 X S L).symm (fun _ => ct_hasGondola (am_isW_k isW20 X S L)) ?_
  show am_ex (d + 8) 71 8 [some (.ref 5), some (.int (nI j)), some (.int q), none] [.int (bI (decide (¬ (nI j) < 0 ∧ ¬ (S 20 0) ≤ (nI j))))] (am_hh X S L) _
  refine ax_pF rfl (fun c1 => ?_) (fun c1 => ?_)
  · refine ax_s (pc' := 23) (st' := [.int (-1000001)]) rfl rfl rfl rfl ?_
    refine ax_r rfl rfl rfl ?_
    first | exact absurd (hg.1) c1 | exact absurd c1 (hg.1) | exact absurd (hg.1) (ne_true_of_eq_false c1)
  · refine ax_s (pc' := 12) (st' := [.int q]) rfl rfl rfl rfl ?_
    refine ax_s (pc' := 13) (st' := [.int 0, .int q]) rfl rfl rfl rfl ?_
    refine ax_s (pc' := 15) (st' := [.int 9, .int 0, .int q]) rfl rfl rfl rfl ?_
    refine ax_call (vs := [.int q, .int 0, .int 9]) (rr := []) rfl rfl rfl ?_
    refine ct_isOutside ?_
    show am_ex (d + 8) 71 18 [some (.ref 5), some (.int (nI j)), some (.int q), none] [.int (bI (decide (q < 0 ∨ 9 < q)))] (am_hh X S L) _
    refine ax_pF rfl (fun c2 => ?_) (fun c2 => ?_)
    · refine ax_s (pc' := 25) (st' := [.ref 5]) rfl rfl rfl rfl ?_
      refine ax_call (vs := [.ref 5]) (rr := []) rfl rfl rfl ?_
      refine kt_keep hm24 hk24 hm hk hc2 hc0 (fun S3 a31 a32 a33 a34 a35 => ?_)
      show am_ex (d + 8) 71 28 [some (.ref 5), some (.int (nI j)), some (.int q), none] [] (am_hh X S3 L) _
      refine ax_s (pc' := 29) (st' := [.ref 5]) rfl rfl rfl rfl ?_
      refine ax_get rfl (hh_5 _ _ _) rfl rfl rfl ?_
      show am_ex (d + 8) 71 32 [some (.ref 5), some (.int (nI j)), some (.int q), none] [.ref 20] (am_hh X S3 L) _
      refine ax_get rfl (hh_20 _ _ _) rfl rfl rfl ?_
      show am_ex (d + 8) 71 35 [some (.ref 5), some (.int (nI j)), some (.int q), none] [.ref 21] (am_hh X S3 L) _
      refine ax_s (pc' := 36) (st' := [.int (nI j), .ref 21]) rfl rfl rfl rfl ?_
      refine ax_ald (j := j) (v := (S3 21 j)) rfl (hh_21 _ _ _) rfl rfl (x1 S3 a31 a32 a33 a34 a35) (by decide) rfl ?_
      refine ax_s (pc' := 38) (ls' := [some (.ref 5), some (.int (nI j)), some (.int q), some (.int (S3 21 j))]) (st' := []) rfl rfl rfl rfl ?_
      refine ax_s (pc' := 39) (st' := [.ref 5]) rfl rfl rfl rfl ?_
      refine ax_get rfl (hh_5 _ _ _) rfl rfl rfl ?_
      show am_ex (d + 8) 71 42 [some (.ref 5), some (.int (nI j)), some (.int q), some (.int (S3 21 j))] [.ref 20] (am_hh X S3 L) _
      refine ax_get rfl (hh_20 _ _ _) rfl rfl rfl ?_
      show am_ex (d + 8) 71 45 [some (.ref 5), some (.int (nI j)), some (.int q), some (.int (S3 21 j))] [.ref 21] (am_hh X S3 L) _
      refine ax_s (pc' := 46) (st' := [.int (nI j), .ref 21]) rfl rfl rfl rfl ?_
      refine ax_s (pc' := 47) (st' := [.int q, .int (nI j), .ref 21]) rfl rfl rfl rfl ?_
      refine ax_ast (j := j) rfl (hh_21 _ _ _) rfl rfl (x1 S3 a31 a32 a33 a34 a35) (by decide) (am_hh_set _ _ _ 21 j _ rfl) ?_
      refine ax_s (pc' := 49) (st' := [.int (S3 21 j)]) rfl rfl rfl rfl ?_
      refine ax_r rfl rfl rfl ?_
      exact k1 S3 a31 a32 a33 a34 a35
    · refine ax_s (pc' := 23) (st' := [.int (-1000001)]) rfl rfl rfl rfl ?_
      refine ax_r rfl rfl rfl ?_
      first | exact absurd (hg.2) c2 | exact absurd c2 (hg.2) | exact absurd (hg.2) (ne_true_of_eq_false c2)
theorem wv_m_ballast {d : Nat} {X : Nat × (Nat → Int32)} {S : Nat → Nat → Int32} {L : Nat → Int64} {k j : Nat} {q : Int32} {Q : Option Value → am_H → Prop} (hk24 : k ≤ 24) (hk : S 285 14 = nI k)  (hg : (¬ (nI j) < 0 ∧ ¬ (S 285 8) - 1 < (nI j)) ∧ (¬ q < 0 ∧ ¬ 9 < q)) (x1 : (3 + j) < 39) (k1 : ∀ S3 : Nat → Nat → Int32, (∀ a, a ≠ 285 → a ≠ 294 → S3 a = S a) → (∀ i, i ≠ 14 → S3 285 i = S 285 i) → S3 285 14 = nI (min (k + 1) 24) → (∀ q y, q < min (k + 1) 24 → y < 39 → S3 294 (39 * q + y) = if q + (k + 1 - min (k + 1) 24) < k then S 294 (39 * (q + (k + 1 - min (k + 1) 24)) + y) else S 293 y) → Q (some (.int (S 293 (3 + j)))) (am_hh X (am_u S3 293 (3 + j) q) L)) : am_mt (d + 8) 186 [.ref 285, .int (nI j), .int q] (am_hh X S L) Q := by
  refine ax_in (ls := [some (.ref 285), some (.int (nI j)), some (.int q), none]) rfl ?_
  refine ax_s (pc' := 1) (st' := [.ref 285]) rfl rfl rfl rfl ?_
  refine ax_s (pc' := 2) (st' := [.int (nI j), .ref 285]) rfl rfl rfl rfl ?_
  refine ax_call (vs := [.ref 285, .int (nI j)]) (rr := []) rfl rfl rfl ?_
  refine mt_isGondola  ?_
  show am_ex (d + 8) 186 5 [some (.ref 285), some (.int (nI j)), some (.int q), none] [.int (bI (decide (¬ (nI j) < 0 ∧ ¬ (S 285 8) - 1 < (nI j))))] (am_hh X S L) _
  refine ax_pF rfl (fun c1 => ?_) (fun c1 => ?_)
  · refine ax_s (pc' := 20) (st' := [.int (-1000001)]) rfl rfl rfl rfl ?_
    refine ax_r rfl rfl rfl ?_
    first | exact absurd (hg.1) c1 | exact absurd c1 (hg.1) | exact absurd (hg.1) (ne_true_of_eq_false c1)
  · refine ax_s (pc' := 9) (st' := [.int q]) rfl rfl rfl rfl ?_
    refine ax_s (pc' := 10) (st' := [.int 0, .int q]) rfl rfl rfl rfl ?_
    refine ax_s (pc' := 12) (st' := [.int 9, .int 0, .int q]) rfl rfl rfl rfl ?_
    refine ax_call (vs := [.int q, .int 0, .int 9]) (rr := []) rfl rfl rfl ?_
    refine mt_in ?_
    show am_ex (d + 8) 186 15 [some (.ref 285), some (.int (nI j)), some (.int q), none] [.int (bI (decide (¬ q < 0 ∧ ¬ 9 < q)))] (am_hh X S L) _
    refine ax_pT rfl (fun c2 => ?_) (fun c2 => ?_)
    · refine ax_s (pc' := 22) (st' := [.ref 285]) rfl rfl rfl rfl ?_
      refine ax_get rfl (hh_285 _ _ _) rfl rfl rfl ?_
      show am_ex (d + 8) 186 25 [some (.ref 285), some (.int (nI j)), some (.int q), none] [.ref 293] (am_hh X S L) _
      refine ax_s (pc' := 26) (st' := [.int 3, .ref 293]) rfl rfl rfl rfl ?_
      refine ax_s (pc' := 27) (st' := [.int (nI j), .int 3, .ref 293]) rfl rfl rfl rfl ?_
      refine ax_s (pc' := 28) (st' := [.int (3 + (nI j)), .ref 293]) rfl rfl rfl rfl ?_
      refine ax_ald (j := (3 + j)) (v := (S 293 (3 + j))) rfl (hh_293 _ _ _) rfl (am_na (x := 3) (y := j) rfl rfl) x1 (by decide) rfl ?_
      refine ax_s (pc' := 30) (ls' := [some (.ref 285), some (.int (nI j)), some (.int q), some (.int (S 293 (3 + j)))]) (st' := []) rfl rfl rfl rfl ?_
      refine ax_s (pc' := 31) (st' := [.ref 285]) rfl rfl rfl rfl ?_
      refine ax_call (vs := [.ref 285]) (rr := []) rfl rfl rfl ?_
      refine kt_notes hk24 hk (fun S3 b31 b32 b33 b34 => ?_)
      show am_ex (d + 8) 186 34 [some (.ref 285), some (.int (nI j)), some (.int q), some (.int (S 293 (3 + j)))] [] (am_hh X S3 L) _
      refine ax_s (pc' := 35) (st' := [.ref 285]) rfl rfl rfl rfl ?_
      refine ax_get rfl (hh_285 _ _ _) rfl rfl rfl ?_
      show am_ex (d + 8) 186 38 [some (.ref 285), some (.int (nI j)), some (.int q), some (.int (S 293 (3 + j)))] [.ref 293] (am_hh X S3 L) _
      refine ax_s (pc' := 39) (st' := [.int 3, .ref 293]) rfl rfl rfl rfl ?_
      refine ax_s (pc' := 40) (st' := [.int (nI j), .int 3, .ref 293]) rfl rfl rfl rfl ?_
      refine ax_s (pc' := 41) (st' := [.int (3 + (nI j)), .ref 293]) rfl rfl rfl rfl ?_
      refine ax_s (pc' := 42) (st' := [.int q, .int (3 + (nI j)), .ref 293]) rfl rfl rfl rfl ?_
      refine ax_ast (j := (3 + j)) rfl (hh_293 _ _ _) rfl (am_na (x := 3) (y := j) rfl rfl) x1 (by decide) (am_hh_set _ _ _ 293 (3 + j) _ rfl) ?_
      refine ax_s (pc' := 44) (st' := [.int (S 293 (3 + j))]) rfl rfl rfl rfl ?_
      refine ax_r rfl rfl rfl ?_
      exact k1 S3 b31 b32 b33 b34
    · refine ax_s (pc' := 20) (st' := [.int (-1000001)]) rfl rfl rfl rfl ?_
      refine ax_r rfl rfl rfl ?_
      first | exact absurd (hg.2) c2 | exact absurd c2 (hg.2) | exact absurd (hg.2) (ne_true_of_eq_false c2)
def g_k_limit (S : Nat → Nat → Int32) (p : Int32) : Prop := ¬ (S 20 4) ≤ 0 ∧ (¬ (p < 1 ∨ 99 < p))
def eg_k_limit (S : Nat → Nat → Int32) (p : Int32) : Int32 := (if (S 20 4) ≤ 0 then (-1000002) else (if p < 1 ∨ 99 < p then (-1000001) else 0))
theorem wg_k_limit {d : Nat} {X : Nat × (Nat → Int32)} {S : Nat → Nat → Int32} {L : Nat → Int64} {p : Int32} {Q : Option Value → am_H → Prop}   (hb : ¬ g_k_limit S p) (hQ : Q (some (.int (eg_k_limit S p))) (am_hh X S L)) : am_mt (d + 8) 72 [.ref 5, .int p] (am_hh X S L) Q := by
  refine ax_in (ls := [some (.ref 5), some (.int p), none]) rfl ?_
  refine ax_s (pc' := 1) (st' := [.ref 5]) rfl rfl rfl rfl ?_
  refine ax_get rfl (hh_5 _ _ _) rfl rfl rfl ?_
  show am_ex (d + 8) 72 4 [some (.ref 5), some (.int p), none] [.ref 20] (am_hh X S L) _
  refine ax_call (vs := [.ref 20]) (rr := []) rfl rfl rfl ?_
  refine kw (am_hh_sub isW20 X S L) (am_hh_sub isW20 X S L).symm (fun _ => ct_stands (am_isW_k isW20 X S L)) ?_
  show am_ex (d + 8) 72 7 [some (.ref 5), some (.int p), none] [.int (bI (decide (¬ (S 20 4) ≤ 0)))] (am_hh X S L) _
  refine ax_qT rfl (fun c1 => ?_) (fun c1 => ?_)
  · refine ax_s (pc' := 14) (st' := [.int p]) rfl rfl rfl rfl ?_
    refine ax_s (pc' := 15) (st' := [.int 1, .int p]) rfl rfl rfl rfl ?_
    refine ax_s (pc' := 17) (st' := [.int 99, .int 1, .int p]) rfl rfl rfl rfl ?_
    refine ax_call (vs := [.int p, .int 1, .int 99]) (rr := []) rfl rfl rfl ?_
    refine ct_isOutside ?_
    show am_ex (d + 8) 72 20 [some (.ref 5), some (.int p), none] [.int (bI (decide (p < 1 ∨ 99 < p)))] (am_hh X S L) _
    refine ax_pF rfl (fun c2 => ?_) (fun c2 => ?_)
    · exact absurd ⟨c1, c2⟩ hb
    · refine ax_s (pc' := 25) (st' := [.int (-1000001)]) rfl rfl rfl rfl ?_
      refine ax_r rfl rfl rfl ?_
      unfold eg_k_limit at hQ
      rw [if_neg c1, if_pos c2] at hQ
      exact hQ
  · refine ax_s (pc' := 12) (st' := [.int (-1000002)]) rfl rfl rfl rfl ?_
    refine ax_r rfl rfl rfl ?_
    unfold eg_k_limit at hQ
    rw [if_pos c1] at hQ
    exact hQ
def g_m_limit (S : Nat → Nat → Int32) (p : Int32) : Prop := ¬ ((S 285 8) = 0) ∧ (¬ p < 1 ∧ ¬ 99 < p)
def eg_m_limit (S : Nat → Nat → Int32) (p : Int32) : Int32 := (if (S 285 8) = 0 then (-1000002) else (if ¬ p < 1 ∧ ¬ 99 < p then 0 else (-1000001)))
theorem wg_m_limit {d : Nat} {X : Nat × (Nat → Int32)} {S : Nat → Nat → Int32} {L : Nat → Int64} {p : Int32} {Q : Option Value → am_H → Prop}   (hb : ¬ g_m_limit S p) (hQ : Q (some (.int (eg_m_limit S p))) (am_hh X S L)) : am_mt (d + 8) 187 [.ref 285, .int p] (am_hh X S L) Q := by
  refine ax_in (ls := [some (.ref 285), some (.int p), none]) rfl ?_
  refine ax_s (pc' := 1) (st' := [.ref 285]) rfl rfl rfl rfl ?_
  refine ax_call (vs := [.ref 285]) (rr := []) rfl rfl rfl ?_
  refine mt_isNone  ?_
  show am_ex (d + 8) 187 4 [some (.ref 285), some (.int p), none] [.int (bI (decide ((S 285 8) = 0)))] (am_hh X S L) _
  refine ax_pF rfl (fun c1 => ?_) (fun c1 => ?_)
  · refine ax_s (pc' := 11) (st' := [.int p]) rfl rfl rfl rfl ?_
    refine ax_s (pc' := 12) (st' := [.int 1, .int p]) rfl rfl rfl rfl ?_
    refine ax_s (pc' := 14) (st' := [.int 99, .int 1, .int p]) rfl rfl rfl rfl ?_
    refine ax_call (vs := [.int p, .int 1, .int 99]) (rr := []) rfl rfl rfl ?_
    refine mt_in ?_
    show am_ex (d + 8) 187 17 [some (.ref 285), some (.int p), none] [.int (bI (decide (¬ p < 1 ∧ ¬ 99 < p)))] (am_hh X S L) _
    refine ax_pT rfl (fun c2 => ?_) (fun c2 => ?_)
    · exact absurd ⟨c1, c2⟩ hb
    · refine ax_s (pc' := 22) (st' := [.int (-1000001)]) rfl rfl rfl rfl ?_
      refine ax_r rfl rfl rfl ?_
      unfold eg_m_limit at hQ
      rw [if_neg c1, if_neg c2] at hQ
      exact hQ
  · refine ax_s (pc' := 9) (st' := [.int (-1000002)]) rfl rfl rfl rfl ?_
    refine ax_r rfl rfl rfl ?_
    unfold eg_m_limit at hQ
    rw [if_pos c1] at hQ
    exact hQ
theorem wv_k_limit {d : Nat} {X : Nat × (Nat → Int32)} {S : Nat → Nat → Int32} {L : Nat → Int64} {m k : Nat} {p : Int32} {Q : Option Value → am_H → Prop} (hm24 : m < 24) (hk24 : k ≤ 24) (hm : S 38 1 = nI m) (hk : S 38 2 = nI k) (hc2 : w_cl (am_sub S (40 + 9 * m))) (hc0 : w_cl (am_sub S 20))  (hg : ¬ (S 20 4) ≤ 0 ∧ (¬ (p < 1 ∨ 99 < p))) (k1 : ∀ S3 : Nat → Nat → Int32, am_sub S3 (40 + 9 * m) = am_sub S 20 → (∀ a, ¬ (40 + 9 * m ≤ a ∧ a < 49 + 9 * m) → a ≠ 38 → a ≠ 277 → S3 a = S a) → S3 38 1 = nI ((m + 1) % 24) → S3 38 2 = nI (min (k + 1) 24) → S3 277 3 = 0 → Q (some (.int (S3 20 1))) (am_hh X (am_u S3 20 1 p) L)) : am_mt (d + 8) 72 [.ref 5, .int p] (am_hh X S L) Q := by
  refine ax_in (ls := [some (.ref 5), some (.int p), none]) rfl ?_
  refine ax_s (pc' := 1) (st' := [.ref 5]) rfl rfl rfl rfl ?_
  refine ax_get rfl (hh_5 _ _ _) rfl rfl rfl ?_
  show am_ex (d + 8) 72 4 [some (.ref 5), some (.int p), none] [.ref 20] (am_hh X S L) _
  refine ax_call (vs := [.ref 20]) (rr := []) rfl rfl rfl ?_
  refine kw (am_hh_sub isW20 X S L) (am_hh_sub isW20 X S L).symm (fun _ => ct_stands (am_isW_k isW20 X S L)) ?_
  show am_ex (d + 8) 72 7 [some (.ref 5), some (.int p), none] [.int (bI (decide (¬ (S 20 4) ≤ 0)))] (am_hh X S L) _
  refine ax_qT rfl (fun c1 => ?_) (fun c1 => ?_)
  · refine ax_s (pc' := 14) (st' := [.int p]) rfl rfl rfl rfl ?_
    refine ax_s (pc' := 15) (st' := [.int 1, .int p]) rfl rfl rfl rfl ?_
    refine ax_s (pc' := 17) (st' := [.int 99, .int 1, .int p]) rfl rfl rfl rfl ?_
    refine ax_call (vs := [.int p, .int 1, .int 99]) (rr := []) rfl rfl rfl ?_
    refine ct_isOutside ?_
    show am_ex (d + 8) 72 20 [some (.ref 5), some (.int p), none] [.int (bI (decide (p < 1 ∨ 99 < p)))] (am_hh X S L) _
    refine ax_pF rfl (fun c2 => ?_) (fun c2 => ?_)
    · refine ax_s (pc' := 27) (st' := [.ref 5]) rfl rfl rfl rfl ?_
      refine ax_call (vs := [.ref 5]) (rr := []) rfl rfl rfl ?_
      refine kt_keep hm24 hk24 hm hk hc2 hc0 (fun S3 a31 a32 a33 a34 a35 => ?_)
      show am_ex (d + 8) 72 30 [some (.ref 5), some (.int p), none] [] (am_hh X S3 L) _
      refine ax_s (pc' := 31) (st' := [.ref 5]) rfl rfl rfl rfl ?_
      refine ax_get rfl (hh_5 _ _ _) rfl rfl rfl ?_
      show am_ex (d + 8) 72 34 [some (.ref 5), some (.int p), none] [.ref 20] (am_hh X S3 L) _
      refine ax_get rfl (hh_20 _ _ _) rfl rfl rfl ?_
      show am_ex (d + 8) 72 37 [some (.ref 5), some (.int p), none] [.int (S3 20 1)] (am_hh X S3 L) _
      refine ax_s (pc' := 38) (ls' := [some (.ref 5), some (.int p), some (.int (S3 20 1))]) (st' := []) rfl rfl rfl rfl ?_
      refine ax_s (pc' := 39) (st' := [.ref 5]) rfl rfl rfl rfl ?_
      refine ax_get rfl (hh_5 _ _ _) rfl rfl rfl ?_
      show am_ex (d + 8) 72 42 [some (.ref 5), some (.int p), some (.int (S3 20 1))] [.ref 20] (am_hh X S3 L) _
      refine ax_s (pc' := 43) (st' := [.int p, .ref 20]) rfl rfl rfl rfl ?_
      refine ax_put rfl (hh_20 _ _ _) rfl rfl (show 1 + 1 ≤ _ from Nat.le_of_ble_eq_true rfl) rfl (am_hh_set _ _ _ 20 1 _ rfl) ?_
      refine ax_s (pc' := 47) (st' := [.int (S3 20 1)]) rfl rfl rfl rfl ?_
      refine ax_r rfl rfl rfl ?_
      exact k1 S3 a31 a32 a33 a34 a35
    · refine ax_s (pc' := 25) (st' := [.int (-1000001)]) rfl rfl rfl rfl ?_
      refine ax_r rfl rfl rfl ?_
      first | exact absurd (hg.2) c2 | exact absurd c2 (hg.2) | exact absurd (hg.2) (ne_true_of_eq_false c2)
  · refine ax_s (pc' := 12) (st' := [.int (-1000002)]) rfl rfl rfl rfl ?_
    refine ax_r rfl rfl rfl ?_
    first | exact absurd (hg.1) c1 | exact absurd c1 (hg.1) | exact absurd (hg.1) (ne_true_of_eq_false c1)
theorem wv_m_limit {d : Nat} {X : Nat × (Nat → Int32)} {S : Nat → Nat → Int32} {L : Nat → Int64} {k : Nat} {p : Int32} {Q : Option Value → am_H → Prop} (hk24 : k ≤ 24) (hk : S 285 14 = nI k)  (hg : ¬ ((S 285 8) = 0) ∧ (¬ p < 1 ∧ ¬ 99 < p)) (k1 : ∀ S3 : Nat → Nat → Int32, (∀ a, a ≠ 285 → a ≠ 294 → S3 a = S a) → (∀ i, i ≠ 14 → S3 285 i = S 285 i) → S3 285 14 = nI (min (k + 1) 24) → (∀ q y, q < min (k + 1) 24 → y < 39 → S3 294 (39 * q + y) = if q + (k + 1 - min (k + 1) 24) < k then S 294 (39 * (q + (k + 1 - min (k + 1) 24)) + y) else S 293 y) → Q (some (.int (S 293 2))) (am_hh X (am_u S3 293 2 p) L)) : am_mt (d + 8) 187 [.ref 285, .int p] (am_hh X S L) Q := by
  refine ax_in (ls := [some (.ref 285), some (.int p), none]) rfl ?_
  refine ax_s (pc' := 1) (st' := [.ref 285]) rfl rfl rfl rfl ?_
  refine ax_call (vs := [.ref 285]) (rr := []) rfl rfl rfl ?_
  refine mt_isNone  ?_
  show am_ex (d + 8) 187 4 [some (.ref 285), some (.int p), none] [.int (bI (decide ((S 285 8) = 0)))] (am_hh X S L) _
  refine ax_pF rfl (fun c1 => ?_) (fun c1 => ?_)
  · refine ax_s (pc' := 11) (st' := [.int p]) rfl rfl rfl rfl ?_
    refine ax_s (pc' := 12) (st' := [.int 1, .int p]) rfl rfl rfl rfl ?_
    refine ax_s (pc' := 14) (st' := [.int 99, .int 1, .int p]) rfl rfl rfl rfl ?_
    refine ax_call (vs := [.int p, .int 1, .int 99]) (rr := []) rfl rfl rfl ?_
    refine mt_in ?_
    show am_ex (d + 8) 187 17 [some (.ref 285), some (.int p), none] [.int (bI (decide (¬ p < 1 ∧ ¬ 99 < p)))] (am_hh X S L) _
    refine ax_pT rfl (fun c2 => ?_) (fun c2 => ?_)
    · refine ax_s (pc' := 24) (st' := [.ref 285]) rfl rfl rfl rfl ?_
      refine ax_get rfl (hh_285 _ _ _) rfl rfl rfl ?_
      show am_ex (d + 8) 187 27 [some (.ref 285), some (.int p), none] [.ref 293] (am_hh X S L) _
      refine ax_s (pc' := 28) (st' := [.int 2, .ref 293]) rfl rfl rfl rfl ?_
      refine ax_ald (j := 2) (v := (S 293 2)) rfl (hh_293 _ _ _) rfl rfl (by decide) (by decide) rfl ?_
      refine ax_s (pc' := 30) (ls' := [some (.ref 285), some (.int p), some (.int (S 293 2))]) (st' := []) rfl rfl rfl rfl ?_
      refine ax_s (pc' := 31) (st' := [.ref 285]) rfl rfl rfl rfl ?_
      refine ax_call (vs := [.ref 285]) (rr := []) rfl rfl rfl ?_
      refine kt_notes hk24 hk (fun S3 b31 b32 b33 b34 => ?_)
      show am_ex (d + 8) 187 34 [some (.ref 285), some (.int p), some (.int (S 293 2))] [] (am_hh X S3 L) _
      refine ax_s (pc' := 35) (st' := [.ref 285]) rfl rfl rfl rfl ?_
      refine ax_get rfl (hh_285 _ _ _) rfl rfl rfl ?_
      show am_ex (d + 8) 187 38 [some (.ref 285), some (.int p), some (.int (S 293 2))] [.ref 293] (am_hh X S3 L) _
      refine ax_s (pc' := 39) (st' := [.int 2, .ref 293]) rfl rfl rfl rfl ?_
      refine ax_s (pc' := 40) (st' := [.int p, .int 2, .ref 293]) rfl rfl rfl rfl ?_
      refine ax_ast (j := 2) rfl (hh_293 _ _ _) rfl rfl (by decide) (by decide) (am_hh_set _ _ _ 293 2 _ rfl) ?_
      refine ax_s (pc' := 42) (st' := [.int (S 293 2)]) rfl rfl rfl rfl ?_
      refine ax_r rfl rfl rfl ?_
      exact k1 S3 b31 b32 b33 b34
    · refine ax_s (pc' := 22) (st' := [.int (-1000001)]) rfl rfl rfl rfl ?_
      refine ax_r rfl rfl rfl ?_
      first | exact absurd (hg.2) c2 | exact absurd c2 (hg.2) | exact absurd (hg.2) (ne_true_of_eq_false c2)
  · refine ax_s (pc' := 9) (st' := [.int (-1000002)]) rfl rfl rfl rfl ?_
    refine ax_r rfl rfl rfl ?_
    first | exact absurd (hg.1) c1 | exact absurd c1 (hg.1) | exact absurd (hg.1) (ne_true_of_eq_false c1)
def g_k_again (S : Nat → Nat → Int32) (p : Int32) : Prop := (¬ p < 0 ∧ ¬ (S 20 4) ≤ p) ∧ ((S 25 p.toNatClampNeg) = 2 ∨ (S 25 p.toNatClampNeg) = 3)
def eg_k_again (S : Nat → Nat → Int32) (p : Int32) : Int32 := (if ¬ p < 0 ∧ ¬ (S 20 4) ≤ p then (if (S 25 p.toNatClampNeg) = 2 ∨ (S 25 p.toNatClampNeg) = 3 then 0 else (-1000002)) else (-1000001))
theorem wg_k_again {d : Nat} {X : Nat × (Nat → Int32)} {S : Nat → Nat → Int32} {L : Nat → Int64} {p : Int32} {Q : Option Value → am_H → Prop}  (x1 : ¬ p < 0 ∧ ¬ (S 20 4) ≤ p → am_ix p 6 = true) (hb : ¬ g_k_again S p) (hQ : Q (some (.int (eg_k_again S p))) (am_hh X S L)) : am_mt (d + 8) 73 [.ref 5, .int p] (am_hh X S L) Q := by
  refine ax_in (ls := [some (.ref 5), some (.int p)]) rfl ?_
  refine ax_s (pc' := 1) (st' := [.ref 5]) rfl rfl rfl rfl ?_
  refine ax_get rfl (hh_5 _ _ _) rfl rfl rfl ?_
  show am_ex (d + 8) 73 4 [some (.ref 5), some (.int p)] [.ref 20] (am_hh X S L) _
  refine ax_s (pc' := 5) (st' := [.int p, .ref 20]) rfl rfl rfl rfl ?_
  refine ax_call (vs := [.ref 20, .int p]) (rr := []) rfl rfl rfl ?_
  refine kw (am_hh_sub isW20 X S L) (am_hh_sub isW20 X S L).symm (fun _ => ct_hasParty (am_isW_k isW20 X S L)) ?_
  show am_ex (d + 8) 73 8 [some (.ref 5), some (.int p)] [.int (bI (decide (¬ p < 0 ∧ ¬ (S 20 4) ≤ p)))] (am_hh X S L) _
  refine ax_pT rfl (fun c1 => ?_) (fun c1 => ?_)
  · refine ax_s (pc' := 15) (st' := [.ref 5]) rfl rfl rfl rfl ?_
    refine ax_get rfl (hh_5 _ _ _) rfl rfl rfl ?_
    show am_ex (d + 8) 73 18 [some (.ref 5), some (.int p)] [.ref 20] (am_hh X S L) _
    refine ax_s (pc' := 19) (st' := [.int p, .ref 20]) rfl rfl rfl rfl ?_
    refine ax_call (vs := [.ref 20, .int p]) (rr := []) rfl rfl rfl ?_
    refine kw (am_hh_sub isW20 X S L) (am_hh_sub isW20 X S L).symm (fun _ => ct_hasLeft (am_isW_k isW20 X S L) (am_ix_nI (x1 c1)) (am_ix_lt (x1 c1))) ?_
    show am_ex (d + 8) 73 22 [some (.ref 5), some (.int p)] [.int (bI (decide ((S 25 p.toNatClampNeg) = 2 ∨ (S 25 p.toNatClampNeg) = 3)))] (am_hh X S L) _
    refine ax_pT rfl (fun c2 => ?_) (fun c2 => ?_)
    · exact absurd ⟨c1, c2⟩ hb
    · refine ax_s (pc' := 27) (st' := [.int (-1000002)]) rfl rfl rfl rfl ?_
      refine ax_r rfl rfl rfl ?_
      unfold eg_k_again at hQ
      rw [if_pos c1, if_neg c2] at hQ
      exact hQ
  · refine ax_s (pc' := 13) (st' := [.int (-1000001)]) rfl rfl rfl rfl ?_
    refine ax_r rfl rfl rfl ?_
    unfold eg_k_again at hQ
    rw [if_neg c1] at hQ
    exact hQ
def g_m_again (S : Nat → Nat → Int32) (p : Int32) : Prop := (¬ p < 0 ∧ ¬ (S 285 7) - 1 < p) ∧ 2 ≤ (S 293 (15 + p).toNatClampNeg)
def eg_m_again (S : Nat → Nat → Int32) (p : Int32) : Int32 := (if ¬ p < 0 ∧ ¬ (S 285 7) - 1 < p then (if 2 ≤ (S 293 (15 + p).toNatClampNeg) then 0 else (-1000002)) else (-1000001))
theorem wg_m_again {d : Nat} {X : Nat × (Nat → Int32)} {S : Nat → Nat → Int32} {L : Nat → Int64} {p : Int32} {Q : Option Value → am_H → Prop}  (x1 : ¬ p < 0 ∧ ¬ (S 285 7) - 1 < p → am_ix (15 + p) 39 = true) (hb : ¬ g_m_again S p) (hQ : Q (some (.int (eg_m_again S p))) (am_hh X S L)) : am_mt (d + 8) 188 [.ref 285, .int p] (am_hh X S L) Q := by
  refine ax_in (ls := [some (.ref 285), some (.int p)]) rfl ?_
  refine ax_s (pc' := 1) (st' := [.ref 285]) rfl rfl rfl rfl ?_
  refine ax_s (pc' := 2) (st' := [.int p, .ref 285]) rfl rfl rfl rfl ?_
  refine ax_call (vs := [.ref 285, .int p]) (rr := []) rfl rfl rfl ?_
  refine mt_isParty  ?_
  show am_ex (d + 8) 188 5 [some (.ref 285), some (.int p)] [.int (bI (decide (¬ p < 0 ∧ ¬ (S 285 7) - 1 < p)))] (am_hh X S L) _
  refine ax_pT rfl (fun c1 => ?_) (fun c1 => ?_)
  · refine ax_s (pc' := 12) (st' := [.ref 285]) rfl rfl rfl rfl ?_
    refine ax_get rfl (hh_285 _ _ _) rfl rfl rfl ?_
    show am_ex (d + 8) 188 15 [some (.ref 285), some (.int p)] [.ref 293] (am_hh X S L) _
    refine ax_s (pc' := 17) (st' := [.int 15, .ref 293]) rfl rfl rfl rfl ?_
    refine ax_s (pc' := 18) (st' := [.int p, .int 15, .ref 293]) rfl rfl rfl rfl ?_
    refine ax_s (pc' := 19) (st' := [.int (15 + p), .ref 293]) rfl rfl rfl rfl ?_
    refine ax_ald' (v := (S 293 (15 + p).toNatClampNeg)) rfl (hh_293 _ _ _) rfl (x1 c1) rfl ?_
    refine ax_s (pc' := 21) (st' := [.int 2, .int (S 293 (15 + p).toNatClampNeg)]) rfl rfl rfl rfl ?_
    refine ax_cmp_ge rfl (fun c2 => ?_) (fun c2 => ?_)
    · exact absurd ⟨c1, c2⟩ hb
    · refine ax_s (pc' := 26) (st' := [.int (-1000002)]) rfl rfl rfl rfl ?_
      refine ax_r rfl rfl rfl ?_
      unfold eg_m_again at hQ
      rw [if_pos c1, if_neg c2] at hQ
      exact hQ
  · refine ax_s (pc' := 10) (st' := [.int (-1000001)]) rfl rfl rfl rfl ?_
    refine ax_r rfl rfl rfl ?_
    unfold eg_m_again at hQ
    rw [if_neg c1] at hQ
    exact hQ
theorem wv_k_again {d : Nat} {X : Nat × (Nat → Int32)} {S : Nat → Nat → Int32} {L : Nat → Int64} {m k j : Nat} {g n : Nat} {Q : Option Value → am_H → Prop} (hm24 : m < 24) (hk24 : k ≤ 24) (hm : S 38 1 = nI m) (hk : S 38 2 = nI k) (hc2 : w_cl (am_sub S (40 + 9 * m))) (hc0 : w_cl (am_sub S 20))  (hg : (¬ (nI j) < 0 ∧ ¬ (S 20 4) ≤ (nI j)) ∧ ((S 25 j) = 2 ∨ (S 25 j) = 3)) (f1 : ∀ S3 : Nat → Nat → Int32, am_sub S3 (40 + 9 * m) = am_sub S 20 → (∀ a, ¬ (40 + 9 * m ≤ a ∧ a < 49 + 9 * m) → a ≠ 38 → a ≠ 277 → S3 a = S a) → S3 38 1 = nI ((m + 1) % 24) → S3 38 2 = nI (min (k + 1) 24) → S3 277 3 = 0 → wF (am_sub (am_ovl S3 20 (w_ca (am_sub S3 20) j)) 20) g n) (x1 : ¬ (nI j) < 0 ∧ ¬ (S 20 4) ≤ (nI j) → j < 6) (x2 : ∀ S3 : Nat → Nat → Int32, am_sub S3 (40 + 9 * m) = am_sub S 20 → (∀ a, ¬ (40 + 9 * m ≤ a ∧ a < 49 + 9 * m) → a ≠ 38 → a ≠ 277 → S3 a = S a) → S3 38 1 = nI ((m + 1) % 24) → S3 38 2 = nI (min (k + 1) 24) → S3 277 3 = 0 → j < 6) (k1 : ∀ S3 : Nat → Nat → Int32, am_sub S3 (40 + 9 * m) = am_sub S 20 → (∀ a, ¬ (40 + 9 * m ≤ a ∧ a < 49 + 9 * m) → a ≠ 38 → a ≠ 277 → S3 a = S a) → S3 38 1 = nI ((m + 1) % 24) → S3 38 2 = nI (min (k + 1) 24) → S3 277 3 = 0 → Q (some (.int (w_wh (am_sub (am_ovl S3 20 (w_ca (am_sub S3 20) j)) 20) 0 n 0 0))) (am_hh X (am_ovl S3 20 (w_ca (am_sub S3 20) j)) L)) : am_mt (d + 8) 73 [.ref 5, .int (nI j)] (am_hh X S L) Q := by
  refine ax_in (ls := [some (.ref 5), some (.int (nI j))]) rfl ?_
  refine ax_s (pc' := 1) (st' := [.ref 5]) rfl rfl rfl rfl ?_
  refine ax_get rfl (hh_5 _ _ _) rfl rfl rfl ?_
  show am_ex (d + 8) 73 4 [some (.ref 5), some (.int (nI j))] [.ref 20] (am_hh X S L) _
  refine ax_s (pc' := 5) (st' := [.int (nI j), .ref 20]) rfl rfl rfl rfl ?_
  refine ax_call (vs := [.ref 20, .int (nI j)]) (rr := []) rfl rfl rfl ?_
  refine kw (am_hh_sub isW20 X S L) (am_hh_sub isW20 X S L).symm (fun _ => ct_hasParty (am_isW_k isW20 X S L)) ?_
  show am_ex (d + 8) 73 8 [some (.ref 5), some (.int (nI j))] [.int (bI (decide (¬ (nI j) < 0 ∧ ¬ (S 20 4) ≤ (nI j))))] (am_hh X S L) _
  refine ax_pT rfl (fun c1 => ?_) (fun c1 => ?_)
  · refine ax_s (pc' := 15) (st' := [.ref 5]) rfl rfl rfl rfl ?_
    refine ax_get rfl (hh_5 _ _ _) rfl rfl rfl ?_
    show am_ex (d + 8) 73 18 [some (.ref 5), some (.int (nI j))] [.ref 20] (am_hh X S L) _
    refine ax_s (pc' := 19) (st' := [.int (nI j), .ref 20]) rfl rfl rfl rfl ?_
    refine ax_call (vs := [.ref 20, .int (nI j)]) (rr := []) rfl rfl rfl ?_
    refine kw (am_hh_sub isW20 X S L) (am_hh_sub isW20 X S L).symm (fun _ => ct_hasLeft (am_isW_k isW20 X S L) rfl (x1 c1)) ?_
    show am_ex (d + 8) 73 22 [some (.ref 5), some (.int (nI j))] [.int (bI (decide ((S 25 j) = 2 ∨ (S 25 j) = 3)))] (am_hh X S L) _
    refine ax_pT rfl (fun c2 => ?_) (fun c2 => ?_)
    · refine ax_s (pc' := 29) (st' := [.ref 5]) rfl rfl rfl rfl ?_
      refine ax_call (vs := [.ref 5]) (rr := []) rfl rfl rfl ?_
      refine kt_keep hm24 hk24 hm hk hc2 hc0 (fun S3 a31 a32 a33 a34 a35 => ?_)
      show am_ex (d + 8) 73 32 [some (.ref 5), some (.int (nI j))] [] (am_hh X S3 L) _
      refine ax_s (pc' := 33) (st' := [.ref 5]) rfl rfl rfl rfl ?_
      refine ax_get rfl (hh_5 _ _ _) rfl rfl rfl ?_
      show am_ex (d + 8) 73 36 [some (.ref 5), some (.int (nI j))] [.ref 20] (am_hh X S3 L) _
      refine ax_s (pc' := 37) (st' := [.int (nI j), .ref 20]) rfl rfl rfl rfl ?_
      refine ax_call (vs := [.ref 20, .int (nI j)]) (rr := []) rfl rfl rfl ?_
      refine kw (am_hh_sub isW20 X S3 L) (am_hh_ov isW20 X S3 L _) (fun _ => ct_comeAgain (am_isW_k isW20 X S3 L) rfl (x2 S3 a31 a32 a33 a34 a35)) ?_
      show am_ex (d + 8) 73 40 [some (.ref 5), some (.int (nI j))] [] (am_hh X (am_ovl S3 20 (w_ca (am_sub S3 20) j)) L) _
      refine ax_s (pc' := 41) (st' := [.ref 5]) rfl rfl rfl rfl ?_
      refine ax_get rfl (hh_5 _ _ _) rfl rfl rfl ?_
      show am_ex (d + 8) 73 44 [some (.ref 5), some (.int (nI j))] [.ref 20] (am_hh X (am_ovl S3 20 (w_ca (am_sub S3 20) j)) L) _
      refine ax_s (pc' := 45) (st' := [.int 0, .ref 20]) rfl rfl rfl rfl ?_
      refine ax_call (vs := [.ref 20, .int 0]) (rr := []) rfl rfl rfl ?_
      refine kw (am_hh_sub isW20 X (am_ovl S3 20 (w_ca (am_sub S3 20) j)) L) (am_hh_sub isW20 X (am_ovl S3 20 (w_ca (am_sub S3 20) j)) L).symm (fun _ => ct_whichAre (am_isW_k isW20 X (am_ovl S3 20 (w_ca (am_sub S3 20) j)) L) (f1 S3 a31 a32 a33 a34 a35).1 (f1 S3 a31 a32 a33 a34 a35).2.1) ?_
      show am_ex (d + 8) 73 48 [some (.ref 5), some (.int (nI j))] [.int (w_wh (am_sub (am_ovl S3 20 (w_ca (am_sub S3 20) j)) 20) 0 n 0 0)] (am_hh X (am_ovl S3 20 (w_ca (am_sub S3 20) j)) L) _
      refine ax_r rfl rfl rfl ?_
      exact k1 S3 a31 a32 a33 a34 a35
    · refine ax_s (pc' := 27) (st' := [.int (-1000002)]) rfl rfl rfl rfl ?_
      refine ax_r rfl rfl rfl ?_
      first | exact absurd (hg.2) c2 | exact absurd c2 (hg.2) | exact absurd (hg.2) (ne_true_of_eq_false c2)
  · refine ax_s (pc' := 13) (st' := [.int (-1000001)]) rfl rfl rfl rfl ?_
    refine ax_r rfl rfl rfl ?_
    first | exact absurd (hg.1) c1 | exact absurd c1 (hg.1) | exact absurd (hg.1) (ne_true_of_eq_false c1)
theorem wv_m_again {d : Nat} {X : Nat × (Nat → Int32)} {S : Nat → Nat → Int32} {L : Nat → Int64} {k j : Nat} {g n : Nat} {Q : Option Value → am_H → Prop} (hk24 : k ≤ 24) (hk : S 285 14 = nI k) (hF : mF S g n)  (hg : (¬ (nI j) < 0 ∧ ¬ (S 285 7) - 1 < (nI j)) ∧ 2 ≤ (S 293 (15 + j))) (x1 : ¬ (nI j) < 0 ∧ ¬ (S 285 7) - 1 < (nI j) → (15 + j) < 39) (x2 : ∀ S3 : Nat → Nat → Int32, (∀ a, a ≠ 285 → a ≠ 294 → S3 a = S a) → (∀ i, i ≠ 14 → S3 285 i = S 285 i) → S3 285 14 = nI (min (k + 1) 24) → (∀ q y, q < min (k + 1) 24 → y < 39 → S3 294 (39 * q + y) = if q + (k + 1 - min (k + 1) 24) < k then S 294 (39 * (q + (k + 1 - min (k + 1) 24)) + y) else S 293 y) → (15 + j) < 39) (x3 : ∀ S3 : Nat → Nat → Int32, (∀ a, a ≠ 285 → a ≠ 294 → S3 a = S a) → (∀ i, i ≠ 14 → S3 285 i = S 285 i) → S3 285 14 = nI (min (k + 1) 24) → (∀ q y, q < min (k + 1) 24 → y < 39 → S3 294 (39 * q + y) = if q + (k + 1 - min (k + 1) 24) < k then S 294 (39 * (q + (k + 1 - min (k + 1) 24)) + y) else S 293 y) → (27 + j) < 39) (x4 : ∀ S3 : Nat → Nat → Int32, (∀ a, a ≠ 285 → a ≠ 294 → S3 a = S a) → (∀ i, i ≠ 14 → S3 285 i = S 285 i) → S3 285 14 = nI (min (k + 1) 24) → (∀ q y, q < min (k + 1) 24 → y < 39 → S3 294 (39 * q + y) = if q + (k + 1 - min (k + 1) 24) < k then S 294 (39 * (q + (k + 1 - min (k + 1) 24)) + y) else S 293 y) → (33 + j) < 39) (k1 : ∀ S3 : Nat → Nat → Int32, (∀ a, a ≠ 285 → a ≠ 294 → S3 a = S a) → (∀ i, i ≠ 14 → S3 285 i = S 285 i) → S3 285 14 = nI (min (k + 1) 24) → (∀ q y, q < min (k + 1) 24 → y < 39 → S3 294 (39 * q + y) = if q + (k + 1 - min (k + 1) 24) < k then S 294 (39 * (q + (k + 1 - min (k + 1) 24)) + y) else S 293 y) → Q (some (.int (m_th (am_u (am_u (am_u S3 293 (15 + j) 0) 293 (27 + j) 0) 293 (33 + j) 0) 293 0 n 0 0))) (am_hh X (am_u (am_u (am_u S3 293 (15 + j) 0) 293 (27 + j) 0) 293 (33 + j) 0) L)) : am_mt (d + 8) 188 [.ref 285, .int (nI j)] (am_hh X S L) Q := by
  refine ax_in (ls := [some (.ref 285), some (.int (nI j))]) rfl ?_
  refine ax_s (pc' := 1) (st' := [.ref 285]) rfl rfl rfl rfl ?_
  refine ax_s (pc' := 2) (st' := [.int (nI j), .ref 285]) rfl rfl rfl rfl ?_
  refine ax_call (vs := [.ref 285, .int (nI j)]) (rr := []) rfl rfl rfl ?_
  refine mt_isParty  ?_
  show am_ex (d + 8) 188 5 [some (.ref 285), some (.int (nI j))] [.int (bI (decide (¬ (nI j) < 0 ∧ ¬ (S 285 7) - 1 < (nI j))))] (am_hh X S L) _
  refine ax_pT rfl (fun c1 => ?_) (fun c1 => ?_)
  · refine ax_s (pc' := 12) (st' := [.ref 285]) rfl rfl rfl rfl ?_
    refine ax_get rfl (hh_285 _ _ _) rfl rfl rfl ?_
    show am_ex (d + 8) 188 15 [some (.ref 285), some (.int (nI j))] [.ref 293] (am_hh X S L) _
    refine ax_s (pc' := 17) (st' := [.int 15, .ref 293]) rfl rfl rfl rfl ?_
    refine ax_s (pc' := 18) (st' := [.int (nI j), .int 15, .ref 293]) rfl rfl rfl rfl ?_
    refine ax_s (pc' := 19) (st' := [.int (15 + (nI j)), .ref 293]) rfl rfl rfl rfl ?_
    refine ax_ald (j := (15 + j)) (v := (S 293 (15 + j))) rfl (hh_293 _ _ _) rfl (am_na (x := 15) (y := j) rfl rfl) (x1 c1) (by decide) rfl ?_
    refine ax_s (pc' := 21) (st' := [.int 2, .int (S 293 (15 + j))]) rfl rfl rfl rfl ?_
    refine ax_cmp_ge rfl (fun c2 => ?_) (fun c2 => ?_)
    · refine ax_s (pc' := 28) (st' := [.ref 285]) rfl rfl rfl rfl ?_
      refine ax_call (vs := [.ref 285]) (rr := []) rfl rfl rfl ?_
      refine kt_notes hk24 hk (fun S3 b31 b32 b33 b34 => ?_)
      show am_ex (d + 8) 188 31 [some (.ref 285), some (.int (nI j))] [] (am_hh X S3 L) _
      refine ax_s (pc' := 32) (st' := [.ref 285]) rfl rfl rfl rfl ?_
      refine ax_get rfl (hh_285 _ _ _) rfl rfl rfl ?_
      show am_ex (d + 8) 188 35 [some (.ref 285), some (.int (nI j))] [.ref 293] (am_hh X S3 L) _
      refine ax_s (pc' := 36) (st' := [.int (nI j), .ref 293]) rfl rfl rfl rfl ?_
      refine ax_call (vs := [.ref 293, .int (nI j)]) (rr := []) rfl rfl rfl ?_
      refine ax_in (ls := [some (.ref 293), some (.int (nI j))]) rfl ?_
      refine ax_s (pc' := 1) (st' := [.ref 293]) rfl rfl rfl rfl ?_
      refine ax_s (pc' := 3) (st' := [.int 15, .ref 293]) rfl rfl rfl rfl ?_
      refine ax_s (pc' := 4) (st' := [.int (nI j), .int 15, .ref 293]) rfl rfl rfl rfl ?_
      refine ax_s (pc' := 5) (st' := [.int (15 + (nI j)), .ref 293]) rfl rfl rfl rfl ?_
      refine ax_s (pc' := 6) (st' := [.int 0, .int (15 + (nI j)), .ref 293]) rfl rfl rfl rfl ?_
      refine ax_ast (j := (15 + j)) rfl (hh_293 _ _ _) rfl (am_na (x := 15) (y := j) rfl rfl) (x2 S3 b31 b32 b33 b34) (by decide) (am_hh_set _ _ _ 293 (15 + j) _ rfl) ?_
      refine ax_s (pc' := 8) (st' := [.ref 293]) rfl rfl rfl rfl ?_
      refine ax_s (pc' := 10) (st' := [.int 27, .ref 293]) rfl rfl rfl rfl ?_
      refine ax_s (pc' := 11) (st' := [.int (nI j), .int 27, .ref 293]) rfl rfl rfl rfl ?_
      refine ax_s (pc' := 12) (st' := [.int (27 + (nI j)), .ref 293]) rfl rfl rfl rfl ?_
      refine ax_s (pc' := 13) (st' := [.int 0, .int (27 + (nI j)), .ref 293]) rfl rfl rfl rfl ?_
      refine ax_ast (j := (27 + j)) rfl (hh_293 _ _ _) rfl (am_na (x := 27) (y := j) rfl rfl) (x3 S3 b31 b32 b33 b34) (by decide) (am_hh_set _ _ _ 293 (27 + j) _ rfl) ?_
      refine ax_s (pc' := 15) (st' := [.ref 293]) rfl rfl rfl rfl ?_
      refine ax_s (pc' := 17) (st' := [.int 33, .ref 293]) rfl rfl rfl rfl ?_
      refine ax_s (pc' := 18) (st' := [.int (nI j), .int 33, .ref 293]) rfl rfl rfl rfl ?_
      refine ax_s (pc' := 19) (st' := [.int (33 + (nI j)), .ref 293]) rfl rfl rfl rfl ?_
      refine ax_s (pc' := 20) (st' := [.int 0, .int (33 + (nI j)), .ref 293]) rfl rfl rfl rfl ?_
      refine ax_ast (j := (33 + j)) rfl (hh_293 _ _ _) rfl (am_na (x := 33) (y := j) rfl rfl) (x4 S3 b31 b32 b33 b34) (by decide) (am_hh_set _ _ _ 293 (33 + j) _ rfl) ?_
      refine ax_r rfl rfl rfl ?_
      show am_ex (d + 8) 188 39 [some (.ref 285), some (.int (nI j))] [] (am_hh X (am_u (am_u (am_u S3 293 (15 + j) 0) 293 (27 + j) 0) 293 (33 + j) 0) L) _
      refine ax_s (pc' := 40) (st' := [.ref 285]) rfl rfl rfl rfl ?_
      refine ax_s (pc' := 41) (st' := [.ref 285, .ref 285]) rfl rfl rfl rfl ?_
      refine ax_get rfl (hh_285 _ _ _) rfl rfl rfl ?_
      show am_ex (d + 8) 188 44 [some (.ref 285), some (.int (nI j))] [.ref 293, .ref 285] (am_hh X (am_u (am_u (am_u S3 293 (15 + j) 0) 293 (27 + j) 0) 293 (33 + j) 0) L) _
      refine ax_s (pc' := 45) (st' := [.int 0, .ref 293, .ref 285]) rfl rfl rfl rfl ?_
      refine ax_call (vs := [.ref 285, .ref 293, .int 0]) (rr := []) rfl rfl rfl ?_
      refine mt_those (mF_notes hF b31 b32).1.1 (mF_notes hF b31 b32).1.2 (Or.inl rfl) ?_
      show am_ex (d + 8) 188 48 [some (.ref 285), some (.int (nI j))] [.int (m_th (am_u (am_u (am_u S3 293 (15 + j) 0) 293 (27 + j) 0) 293 (33 + j) 0) 293 0 n 0 0)] (am_hh X (am_u (am_u (am_u S3 293 (15 + j) 0) 293 (27 + j) 0) 293 (33 + j) 0) L) _
      refine ax_r rfl rfl rfl ?_
      exact k1 S3 b31 b32 b33 b34
    · refine ax_s (pc' := 26) (st' := [.int (-1000002)]) rfl rfl rfl rfl ?_
      refine ax_r rfl rfl rfl ?_
      first | exact absurd (hg.2) c2 | exact absurd c2 (hg.2) | exact absurd (hg.2) (ne_true_of_eq_false c2)
  · refine ax_s (pc' := 10) (st' := [.int (-1000001)]) rfl rfl rfl rfl ?_
    refine ax_r rfl rfl rfl ?_
    first | exact absurd (hg.1) c1 | exact absurd c1 (hg.1) | exact absurd (hg.1) (ne_true_of_eq_false c1)
