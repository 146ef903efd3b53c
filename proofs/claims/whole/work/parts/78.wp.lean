theorem wl_mbear {d : Nat} {X : Nat × (Nat → Int32)} {S : Nat → Nat → Int32} {L : Nat → Int64} {g n : Nat} {W : Nat → Nat → Int32} {S1 : Nat → Nat → Int32} {t v : Nat} {Q : Option Value → am_H → Prop} (hR : mR W S 293 g n) (hK : JK S) (hf1 : F8 S S1)  (x1 : ¬ 99 < (nI v) → ∀ S2 : Nat → Nat → Int32, mR W S2 298 g n → F8 S1 S2 → t < 1000) (k1 : 99 < (nI v) → Q (some (.int (-1000000))) (am_hh X S1 L)) (k2 : ¬ 99 < (nI v) → ∀ S2 : Nat → Nat → Int32, mR W S2 298 g n → F8 S1 S2 → ∀ S3 : Nat → Nat → Int32, mR (w_it rk0 g n t (am_u W 0 1 (nI v))) S3 298 g n → F8 (am_u S2 298 2 (nI v)) S3 → ¬ (w_sn rk0 g n t (am_u W 0 1 (nI v)) 0) = 0 → am_ex (d + 8) 205 25 [some (.ref 285), some (.int (nI t)), some (.int (nI (v + 1)))] [] (am_hh X S3 L) Q) (k3 : ¬ 99 < (nI v) → ∀ S2 : Nat → Nat → Int32, mR W S2 298 g n → F8 S1 S2 → ∀ S3 : Nat → Nat → Int32, mR (w_it rk0 g n t (am_u W 0 1 (nI v))) S3 298 g n → F8 (am_u S2 298 2 (nI v)) S3 → (w_sn rk0 g n t (am_u W 0 1 (nI v)) 0) = 0 → Q (some (.int (nI v))) (am_hh X S3 L)) : am_ex (d + 8) 205 25 [some (.ref 285), some (.int (nI t)), some (.int (nI v))] [] (am_hh X S1 L) Q := by
  refine ax_s (pc' := 26) (st' := [.int (nI v)]) rfl rfl rfl rfl ?_
  refine ax_s (pc' := 28) (st' := [.int 99, .int (nI v)]) rfl rfl rfl rfl ?_
  refine ax_cmp_gt rfl (fun c1 => ?_) (fun c1 => ?_)
  · refine ax_s (pc' := 60) (st' := [.int (-1000000)]) rfl rfl rfl rfl ?_
    refine ax_r rfl rfl rfl ?_
    exact k1 c1
  · refine ax_s (pc' := 32) (st' := [.ref 285]) rfl rfl rfl rfl ?_
    refine ax_call (vs := [.ref 285]) (rr := []) rfl rfl rfl ?_
    refine mt_asItIs' (F8_m hf1 hR) (fun S2 hm2 hf2 => ?_)
    show am_ex (d + 8) 205 35 [some (.ref 285), some (.int (nI t)), some (.int (nI v))] [] (am_hh X S2 L) _
    refine ax_s (pc' := 36) (st' := [.ref 285]) rfl rfl rfl rfl ?_
    refine ax_get rfl (hh_285 _ _ _) rfl rfl rfl ?_
    show am_ex (d + 8) 205 39 [some (.ref 285), some (.int (nI t)), some (.int (nI v))] [.ref 298] (am_hh X S2 L) _
    refine ax_s (pc' := 40) (st' := [.int 2, .ref 298]) rfl rfl rfl rfl ?_
    refine ax_s (pc' := 41) (st' := [.int (nI v), .int 2, .ref 298]) rfl rfl rfl rfl ?_
    refine ax_ast (j := 2) rfl (hh_298 _ _ _) rfl rfl (by decide) (by decide) (am_hh_set _ _ _ 298 2 _ rfl) ?_
    refine ax_s (pc' := 43) (st' := [.ref 285]) rfl rfl rfl rfl ?_
    refine ax_s (pc' := 44) (st' := [.int (nI t), .ref 285]) rfl rfl rfl rfl ?_
    refine ax_call (vs := [.ref 285, .int (nI t)]) (rr := []) rfl rfl rfl ?_
    refine mt_goes (K := t) rfl (Nat.lt_trans (x1 c1 S2 hm2 hf2) (by decide)) (F8_K (F8_u (F8_t hf1 hf2)) hK) (mR_lim (Or.inr rfl) hm2) (fun S3 hm3 hf3 => ?_)
    show am_ex (d + 8) 205 47 [some (.ref 285), some (.int (nI t)), some (.int (nI v))] [.int (w_sn rk0 g n t (am_u W 0 1 (nI v)) 0)] (am_hh X S3 L) _
    refine ax_if_ne rfl (fun c4 => ?_) (fun c4 => ?_)
    · refine ax_s (pc' := 55) (ls' := [some (.ref 285), some (.int (nI t)), some (.int ((nI v) + 1))]) (st' := []) rfl rfl rfl rfl ?_
      rw [nI_1]
      refine ax_s (pc' := 25) (st' := []) rfl rfl rfl rfl ?_
      exact k2 c1 S2 hm2 hf2 S3 hm3 hf3 c4
    · refine ax_s (pc' := 51) (st' := [.int (nI v)]) rfl rfl rfl rfl ?_
      refine ax_r rfl rfl rfl ?_
      exact k3 c1 S2 hm2 hf2 S3 hm3 hf3 c4
def g_k_bear (S : Nat → Nat → Int32) (p : Int32) : Prop := ¬ (S 20 4) ≤ 0 ∧ (¬ (p < 1 ∨ 40 < p))
def eg_k_bear (S : Nat → Nat → Int32) (p : Int32) : Int32 := (if (S 20 4) ≤ 0 then (-1000002) else (if p < 1 ∨ 40 < p then (-1000001) else 0))
theorem wg_k_bear {d : Nat} {X : Nat × (Nat → Int32)} {S : Nat → Nat → Int32} {L : Nat → Int64} {p : Int32} {Q : Option Value → am_H → Prop}  (hb : ¬ g_k_bear S p) (hQ : Q (some (.int (eg_k_bear S p))) (am_hh X S L)) : am_mt (d + 8) 99 [.ref 5, .int p] (am_hh X S L) Q := by
  refine ax_in (ls := [some (.ref 5), some (.int p)]) rfl ?_
  refine ax_s (pc' := 1) (st' := [.ref 5]) rfl rfl rfl rfl ?_
  refine ax_get rfl (hh_5 _ _ _) rfl rfl rfl ?_
  show am_ex (d + 8) 99 4 [some (.ref 5), some (.int p)] [.ref 20] (am_hh X S L) _
  refine ax_call (vs := [.ref 20]) (rr := []) rfl rfl rfl ?_
  refine kw (am_hh_sub isW20 X S L) (am_hh_sub isW20 X S L).symm (fun _ => ct_stands (am_isW_k isW20 X S L)) ?_
  show am_ex (d + 8) 99 7 [some (.ref 5), some (.int p)] [.int (bI (decide (¬ (S 20 4) ≤ 0)))] (am_hh X S L) _
  refine ax_qT rfl (fun c1 => ?_) (fun c1 => ?_)
  · refine ax_s (pc' := 14) (st' := [.int p]) rfl rfl rfl rfl ?_
    refine ax_s (pc' := 15) (st' := [.int 1, .int p]) rfl rfl rfl rfl ?_
    refine ax_s (pc' := 17) (st' := [.int 40, .int 1, .int p]) rfl rfl rfl rfl ?_
    refine ax_call (vs := [.int p, .int 1, .int 40]) (rr := []) rfl rfl rfl ?_
    refine ct_isOutside ?_
    show am_ex (d + 8) 99 20 [some (.ref 5), some (.int p)] [.int (bI (decide (p < 1 ∨ 40 < p)))] (am_hh X S L) _
    refine ax_pF rfl (fun c2 => ?_) (fun c2 => ?_)
    · exact absurd ⟨c1, c2⟩ hb
    · refine ax_s (pc' := 25) (st' := [.int (-1000001)]) rfl rfl rfl rfl ?_
      refine ax_r rfl rfl rfl ?_
      unfold eg_k_bear at hQ
      rw [if_neg c1, if_pos c2] at hQ
      exact hQ
  · refine ax_s (pc' := 12) (st' := [.int (-1000002)]) rfl rfl rfl rfl ?_
    refine ax_r rfl rfl rfl ?_
    unfold eg_k_bear at hQ
    rw [if_pos c1] at hQ
    exact hQ
def g_m_bear (S : Nat → Nat → Int32) (p : Int32) : Prop := ¬ ((S 285 8) = 0) ∧ (¬ p < 1 ∧ ¬ 40 < p)
def eg_m_bear (S : Nat → Nat → Int32) (p : Int32) : Int32 := (if (S 285 8) = 0 then (-1000002) else (if ¬ p < 1 ∧ ¬ 40 < p then 0 else (-1000001)))
theorem wg_m_bear {d : Nat} {X : Nat × (Nat → Int32)} {S : Nat → Nat → Int32} {L : Nat → Int64} {p : Int32} {Q : Option Value → am_H → Prop}  (hb : ¬ g_m_bear S p) (hQ : Q (some (.int (eg_m_bear S p))) (am_hh X S L)) : am_mt (d + 8) 205 [.ref 285, .int p] (am_hh X S L) Q := by
  refine ax_in (ls := [some (.ref 285), some (.int p), none]) rfl ?_
  refine ax_s (pc' := 1) (st' := [.ref 285]) rfl rfl rfl rfl ?_
  refine ax_call (vs := [.ref 285]) (rr := []) rfl rfl rfl ?_
  refine mt_isNone  ?_
  show am_ex (d + 8) 205 4 [some (.ref 285), some (.int p), none] [.int (bI (decide ((S 285 8) = 0)))] (am_hh X S L) _
  refine ax_pF rfl (fun c1 => ?_) (fun c1 => ?_)
  · refine ax_s (pc' := 11) (st' := [.int p]) rfl rfl rfl rfl ?_
    refine ax_s (pc' := 12) (st' := [.int 1, .int p]) rfl rfl rfl rfl ?_
    refine ax_s (pc' := 14) (st' := [.int 40, .int 1, .int p]) rfl rfl rfl rfl ?_
    refine ax_call (vs := [.int p, .int 1, .int 40]) (rr := []) rfl rfl rfl ?_
    refine mt_in ?_
    show am_ex (d + 8) 205 17 [some (.ref 285), some (.int p), none] [.int (bI (decide (¬ p < 1 ∧ ¬ 40 < p)))] (am_hh X S L) _
    refine ax_pT rfl (fun c2 => ?_) (fun c2 => ?_)
    · exact absurd ⟨c1, c2⟩ hb
    · refine ax_s (pc' := 22) (st' := [.int (-1000001)]) rfl rfl rfl rfl ?_
      refine ax_r rfl rfl rfl ?_
      unfold eg_m_bear at hQ
      rw [if_neg c1, if_neg c2] at hQ
      exact hQ
  · refine ax_s (pc' := 9) (st' := [.int (-1000002)]) rfl rfl rfl rfl ?_
    refine ax_r rfl rfl rfl ?_
    unfold eg_m_bear at hQ
    rw [if_pos c1] at hQ
    exact hQ
theorem wv_k_bear {d : Nat} {X : Nat × (Nat → Int32)} {S : Nat → Nat → Int32} {L : Nat → Int64} {g n : Nat} {t : Nat} {Q : Option Value → am_H → Prop} (hf : wF (am_sub S 20) g n) (hc9 : w_cl (am_sub S 29)) (hc0 : w_cl (am_sub S 20))  (hg : g_k_bear S (nI t)) (x1 : t < 1000) (k1 : ∀ W1 : Nat → Nat → Int32, w_cl W1 → Q (some (.int (w_br (am_sub S 20) g n t 99 1))) (am_hh X (am_ovl S 29 W1) L)) : am_mt (d + 8) 99 [.ref 5, .int (nI t)] (am_hh X S L) Q := by
  refine ax_in (ls := [some (.ref 5), some (.int (nI t))]) rfl ?_
  refine ax_s (pc' := 1) (st' := [.ref 5]) rfl rfl rfl rfl ?_
  refine ax_get rfl (hh_5 _ _ _) rfl rfl rfl ?_
  show am_ex (d + 8) 99 4 [some (.ref 5), some (.int (nI t))] [.ref 20] (am_hh X S L) _
  refine ax_call (vs := [.ref 20]) (rr := []) rfl rfl rfl ?_
  refine kw (am_hh_sub isW20 X S L) (am_hh_sub isW20 X S L).symm (fun _ => ct_stands (am_isW_k isW20 X S L)) ?_
  show am_ex (d + 8) 99 7 [some (.ref 5), some (.int (nI t))] [.int (bI (decide (¬ (S 20 4) ≤ 0)))] (am_hh X S L) _
  refine ax_qT rfl (fun c1 => ?_) (fun c1 => ?_)
  · refine ax_s (pc' := 14) (st' := [.int (nI t)]) rfl rfl rfl rfl ?_
    refine ax_s (pc' := 15) (st' := [.int 1, .int (nI t)]) rfl rfl rfl rfl ?_
    refine ax_s (pc' := 17) (st' := [.int 40, .int 1, .int (nI t)]) rfl rfl rfl rfl ?_
    refine ax_call (vs := [.int (nI t), .int 1, .int 40]) (rr := []) rfl rfl rfl ?_
    refine ct_isOutside ?_
    show am_ex (d + 8) 99 20 [some (.ref 5), some (.int (nI t))] [.int (bI (decide ((nI t) < 1 ∨ 40 < (nI t))))] (am_hh X S L) _
    refine ax_pF rfl (fun c2 => ?_) (fun c2 => ?_)
    · refine ax_s (pc' := 27) (st' := [.ref 5]) rfl rfl rfl rfl ?_
      refine ax_get rfl (hh_5 _ _ _) rfl rfl rfl ?_
      show am_ex (d + 8) 99 30 [some (.ref 5), some (.int (nI t))] [.ref 277] (am_hh X S L) _
      refine ax_s (pc' := 31) (st' := [.int (nI t), .ref 277]) rfl rfl rfl rfl ?_
      refine ax_call (vs := [.ref 277, .int (nI t)]) (rr := []) rfl rfl rfl ?_
      refine kt_limit x1 hf hc9 hc0 (fun W1 hw1 => ?_)
      show am_ex (d + 8) 99 34 [some (.ref 5), some (.int (nI t))] [.int (w_br (am_sub S 20) g n t 99 1)] (am_hh X (am_ovl S 29 W1) L) _
      refine ax_r rfl rfl rfl ?_
      exact k1 W1 hw1
    · refine ax_s (pc' := 25) (st' := [.int (-1000001)]) rfl rfl rfl rfl ?_
      refine ax_r rfl rfl rfl ?_
      first | exact absurd (hg.2) c2 | exact absurd c2 (hg.2) | exact absurd (hg.2) (ne_true_of_eq_false c2)
  · refine ax_s (pc' := 12) (st' := [.int (-1000002)]) rfl rfl rfl rfl ?_
    refine ax_r rfl rfl rfl ?_
    first | exact absurd (hg.1) c1 | exact absurd c1 (hg.1) | exact absurd (hg.1) (ne_true_of_eq_false c1)
theorem wv_m_bear {d : Nat} {X : Nat × (Nat → Int32)} {S : Nat → Nat → Int32} {L : Nat → Int64} {t : Nat} {Q : Option Value → am_H → Prop}  (hg : g_m_bear S (nI t)) (k1 : am_ex (d + 8) 205 25 [some (.ref 285), some (.int (nI t)), some (.int 1)] [] (am_hh X S L) Q) : am_mt (d + 8) 205 [.ref 285, .int (nI t)] (am_hh X S L) Q := by
  refine ax_in (ls := [some (.ref 285), some (.int (nI t)), none]) rfl ?_
  refine ax_s (pc' := 1) (st' := [.ref 285]) rfl rfl rfl rfl ?_
  refine ax_call (vs := [.ref 285]) (rr := []) rfl rfl rfl ?_
  refine mt_isNone  ?_
  show am_ex (d + 8) 205 4 [some (.ref 285), some (.int (nI t)), none] [.int (bI (decide ((S 285 8) = 0)))] (am_hh X S L) _
  refine ax_pF rfl (fun c1 => ?_) (fun c1 => ?_)
  · refine ax_s (pc' := 11) (st' := [.int (nI t)]) rfl rfl rfl rfl ?_
    refine ax_s (pc' := 12) (st' := [.int 1, .int (nI t)]) rfl rfl rfl rfl ?_
    refine ax_s (pc' := 14) (st' := [.int 40, .int 1, .int (nI t)]) rfl rfl rfl rfl ?_
    refine ax_call (vs := [.int (nI t), .int 1, .int 40]) (rr := []) rfl rfl rfl ?_
    refine mt_in ?_
    show am_ex (d + 8) 205 17 [some (.ref 285), some (.int (nI t)), none] [.int (bI (decide (¬ (nI t) < 1 ∧ ¬ 40 < (nI t))))] (am_hh X S L) _
    refine ax_pT rfl (fun c2 => ?_) (fun c2 => ?_)
    · refine ax_s (pc' := 24) (st' := [.int 1]) rfl rfl rfl rfl ?_
      refine ax_s (pc' := 25) (ls' := [some (.ref 285), some (.int (nI t)), some (.int 1)]) (st' := []) rfl rfl rfl rfl ?_
      exact k1
    · refine ax_s (pc' := 22) (st' := [.int (-1000001)]) rfl rfl rfl rfl ?_
      refine ax_r rfl rfl rfl ?_
      first | exact absurd (hg.2) c2 | exact absurd c2 (hg.2) | exact absurd (hg.2) (ne_true_of_eq_false c2)
  · refine ax_s (pc' := 9) (st' := [.int (-1000002)]) rfl rfl rfl rfl ?_
    refine ax_r rfl rfl rfl ?_
    first | exact absurd (hg.1) c1 | exact absurd c1 (hg.1) | exact absurd (hg.1) (ne_true_of_eq_false c1)
theorem wl_mload1 {d : Nat} {X : Nat × (Nat → Int32)} {S : Nat → Nat → Int32} {L : Nat → Int64} {g n : Nat} {W : Nat → Nat → Int32} {S1 : Nat → Nat → Int32} {t j : Nat} {q a b : Int32} {x6 x7 x8 : Option Value} {Q : Option Value → am_H → Prop} (hR : mR W S 293 g n) (hK : JK S) (hf1 : F8 S S1)  (k1 : (S1 285 8) ≤ (nI j) → ¬ q = 0 → Q (some (.int b)) (am_hh X S1 L)) (k2 : (S1 285 8) ≤ (nI j) → q = 0 → Q (some (.int a)) (am_hh X S1 L)) (k3 : ¬ (S1 285 8) ≤ (nI j) → am_ex (d + 8) 204 53 [some (.ref 285), some (.int (nI t)), some (.int q), some (.int a), some (.int b), some (.int (nI j)), some (.int 1), x7, x8] [] (am_hh X S1 L) Q) : am_ex (d + 8) 204 41 [some (.ref 285), some (.int (nI t)), some (.int q), some (.int a), some (.int b), some (.int (nI j)), x6, x7, x8] [] (am_hh X S1 L) Q := by
  refine ax_s (pc' := 43) (st' := [.int (nI j)]) rfl rfl rfl rfl ?_
  refine ax_s (pc' := 44) (st' := [.ref 285, .int (nI j)]) rfl rfl rfl rfl ?_
  refine ax_get rfl (hh_285 _ _ _) rfl rfl rfl ?_
  show am_ex (d + 8) 204 47 [some (.ref 285), some (.int (nI t)), some (.int q), some (.int a), some (.int b), some (.int (nI j)), x6, x7, x8] [.int (S1 285 8), .int (nI j)] (am_hh X S1 L) _
  refine ax_cmp_ge rfl (fun c1 => ?_) (fun c1 => ?_)
  · refine ax_s (pc' := 147) (st' := [.int q]) rfl rfl rfl rfl ?_
    refine ax_if_ne rfl (fun c2 => ?_) (fun c2 => ?_)
    · refine ax_s (pc' := 156) (st' := [.int b]) rfl rfl rfl rfl ?_
      refine ax_r rfl rfl rfl ?_
      exact k1 c1 c2
    · refine ax_s (pc' := 151) (st' := [.int a]) rfl rfl rfl rfl ?_
      refine ax_s (pc' := 156) (st' := [.int a]) rfl rfl rfl rfl ?_
      refine ax_r rfl rfl rfl ?_
      exact k2 c1 c2
  · refine ax_s (pc' := 51) (st' := [.int 1]) rfl rfl rfl rfl ?_
    refine ax_s (pc' := 53) (ls' := [some (.ref 285), some (.int (nI t)), some (.int q), some (.int a), some (.int b), some (.int (nI j)), some (.int 1), x7, x8]) (st' := []) rfl rfl rfl rfl ?_
    exact k3 c1
theorem wl_mload2 {d : Nat} {X : Nat × (Nat → Int32)} {S : Nat → Nat → Int32} {L : Nat → Int64} {g n : Nat} {W : Nat → Nat → Int32} {S1 : Nat → Nat → Int32} {t j v : Nat} {q a b : Int32} {x7 x8 : Option Value} {Q : Option Value → am_H → Prop} (hR : mR W S 293 g n) (hK : JK S) (hf1 : F8 S S1) (hb12 : j < 12)  (x1 : ¬ 10 ≤ (nI v) → ∀ S2 : Nat → Nat → Int32, mR W S2 298 g n → F8 S1 S2 → (3 + j) < 39) (x2 : ¬ 10 ≤ (nI v) → ∀ S2 : Nat → Nat → Int32, mR W S2 298 g n → F8 S1 S2 → t < 1000) (k1 : 10 ≤ (nI v) → am_ex (d + 8) 204 41 [some (.ref 285), some (.int (nI t)), some (.int q), some (.int a), some (.int b), some (.int (nI (j + 1))), some (.int (nI v)), x7, x8] [] (am_hh X S1 L) Q) (k2 : ¬ 10 ≤ (nI v) → ∀ S2 : Nat → Nat → Int32, mR W S2 298 g n → F8 S1 S2 → ∀ S3 : Nat → Nat → Int32, mR (w_it rk0 g n t (am_u W 1 j (nI v))) S3 298 g n → F8 (am_u S2 298 (3 + j) (nI v)) S3 → a = (-1000000) → am_ex (d + 8) 204 53 [some (.ref 285), some (.int (nI t)), some (.int q), some (.int ((10 * (nI j)) + (nI v))), some (.int (w_sn rk0 g n t (am_u W 1 j (nI v)) 0)), some (.int (nI j)), some (.int (nI (v + 1))), some (.int (w_sn rk0 g n t (am_u W 1 j (nI v)) 0)), some (.int 1)] [] (am_hh X S3 L) Q) (k3 : ¬ 10 ≤ (nI v) → ∀ S2 : Nat → Nat → Int32, mR W S2 298 g n → F8 S1 S2 → ∀ S3 : Nat → Nat → Int32, mR (w_it rk0 g n t (am_u W 1 j (nI v))) S3 298 g n → F8 (am_u S2 298 (3 + j) (nI v)) S3 → ¬ a = (-1000000) → b ≤ (w_sn rk0 g n t (am_u W 1 j (nI v)) 0) → am_ex (d + 8) 204 53 [some (.ref 285), some (.int (nI t)), some (.int q), some (.int a), some (.int b), some (.int (nI j)), some (.int (nI (v + 1))), some (.int (w_sn rk0 g n t (am_u W 1 j (nI v)) 0)), some (.int 0)] [] (am_hh X S3 L) Q) (k4 : ¬ 10 ≤ (nI v) → ∀ S2 : Nat → Nat → Int32, mR W S2 298 g n → F8 S1 S2 → ∀ S3 : Nat → Nat → Int32, mR (w_it rk0 g n t (am_u W 1 j (nI v))) S3 298 g n → F8 (am_u S2 298 (3 + j) (nI v)) S3 → ¬ a = (-1000000) → ¬ b ≤ (w_sn rk0 g n t (am_u W 1 j (nI v)) 0) → am_ex (d + 8) 204 53 [some (.ref 285), some (.int (nI t)), some (.int q), some (.int ((10 * (nI j)) + (nI v))), some (.int (w_sn rk0 g n t (am_u W 1 j (nI v)) 0)), some (.int (nI j)), some (.int (nI (v + 1))), some (.int (w_sn rk0 g n t (am_u W 1 j (nI v)) 0)), some (.int 1)] [] (am_hh X S3 L) Q) : am_ex (d + 8) 204 53 [some (.ref 285), some (.int (nI t)), some (.int q), some (.int a), some (.int b), some (.int (nI j)), some (.int (nI v)), x7, x8] [] (am_hh X S1 L) Q := by
  refine ax_s (pc' := 55) (st' := [.int (nI v)]) rfl rfl rfl rfl ?_
  refine ax_s (pc' := 57) (st' := [.int 10, .int (nI v)]) rfl rfl rfl rfl ?_
  refine ax_cmp_ge rfl (fun c1 => ?_) (fun c1 => ?_)
  · refine ax_s (pc' := 143) (ls' := [some (.ref 285), some (.int (nI t)), some (.int q), some (.int a), some (.int b), some (.int ((nI j) + 1)), some (.int (nI v)), x7, x8]) (st' := []) rfl rfl rfl rfl ?_
    rw [nI_1]
    refine ax_s (pc' := 41) (st' := []) rfl rfl rfl rfl ?_
    exact k1 c1
  · refine ax_s (pc' := 61) (st' := [.ref 285]) rfl rfl rfl rfl ?_
    refine ax_call (vs := [.ref 285]) (rr := []) rfl rfl rfl ?_
    refine mt_asItIs' (F8_m hf1 hR) (fun S2 hm2 hf2 => ?_)
    show am_ex (d + 8) 204 64 [some (.ref 285), some (.int (nI t)), some (.int q), some (.int a), some (.int b), some (.int (nI j)), some (.int (nI v)), x7, x8] [] (am_hh X S2 L) _
    refine ax_s (pc' := 65) (st' := [.ref 285]) rfl rfl rfl rfl ?_
    refine ax_get rfl (hh_285 _ _ _) rfl rfl rfl ?_
    show am_ex (d + 8) 204 68 [some (.ref 285), some (.int (nI t)), some (.int q), some (.int a), some (.int b), some (.int (nI j)), some (.int (nI v)), x7, x8] [.ref 298] (am_hh X S2 L) _
    refine ax_s (pc' := 69) (st' := [.int 3, .ref 298]) rfl rfl rfl rfl ?_
    refine ax_s (pc' := 71) (st' := [.int (nI j), .int 3, .ref 298]) rfl rfl rfl rfl ?_
    refine ax_s (pc' := 72) (st' := [.int (3 + (nI j)), .ref 298]) rfl rfl rfl rfl ?_
    refine ax_s (pc' := 74) (st' := [.int (nI v), .int (3 + (nI j)), .ref 298]) rfl rfl rfl rfl ?_
    refine ax_ast (j := (3 + j)) rfl (hh_298 _ _ _) rfl (am_na (x := 3) (y := j) rfl rfl) (x1 c1 S2 hm2 hf2) (by decide) (am_hh_set _ _ _ 298 (3 + j) _ rfl) ?_
    refine ax_s (pc' := 76) (st' := [.ref 285]) rfl rfl rfl rfl ?_
    refine ax_s (pc' := 77) (st' := [.int (nI t), .ref 285]) rfl rfl rfl rfl ?_
    refine ax_call (vs := [.ref 285, .int (nI t)]) (rr := []) rfl rfl rfl ?_
    refine mt_goes (K := t) rfl (Nat.lt_trans (x2 c1 S2 hm2 hf2) (by decide)) (F8_K (F8_u (F8_t hf1 hf2)) hK) (mR_bal (Or.inr rfl) hm2 hb12) (fun S3 hm3 hf3 => ?_)
    show am_ex (d + 8) 204 80 [some (.ref 285), some (.int (nI t)), some (.int q), some (.int a), some (.int b), some (.int (nI j)), some (.int (nI v)), x7, x8] [.int (w_sn rk0 g n t (am_u W 1 j (nI v)) 0)] (am_hh X S3 L) _
    refine ax_s (pc' := 82) (ls' := [some (.ref 285), some (.int (nI t)), some (.int q), some (.int a), some (.int b), some (.int (nI j)), some (.int (nI v)), some (.int (w_sn rk0 g n t (am_u W 1 j (nI v)) 0)), x8]) (st' := []) rfl rfl rfl rfl ?_
    refine ax_s (pc' := 83) (st' := [.int a]) rfl rfl rfl rfl ?_
    refine ax_s (pc' := 85) (st' := [.int (-1000000), .int a]) rfl rfl rfl rfl ?_
    refine ax_cmp_eq rfl (fun c4 => ?_) (fun c4 => ?_)
    · refine ax_s (pc' := 96) (st' := [.int 1]) rfl rfl rfl rfl ?_
      refine ax_s (pc' := 100) (st' := [.int 1]) rfl rfl rfl rfl ?_
      refine ax_s (pc' := 102) (ls' := [some (.ref 285), some (.int (nI t)), some (.int q), some (.int a), some (.int b), some (.int (nI j)), some (.int (nI v)), some (.int (w_sn rk0 g n t (am_u W 1 j (nI v)) 0)), some (.int 1)]) (st' := []) rfl rfl rfl rfl ?_
      refine ax_s (pc' := 104) (st' := [.int 1]) rfl rfl rfl rfl ?_
      refine ax_if_eq rfl (fun c5 => False.elim (by revert c5; decide)) (fun c5 => ?_)
      refine ax_s (pc' := 109) (st' := [.int 10]) rfl rfl rfl rfl ?_
      refine ax_s (pc' := 111) (st' := [.int (nI j), .int 10]) rfl rfl rfl rfl ?_
      refine ax_s (pc' := 112) (st' := [.int (10 * (nI j))]) rfl rfl rfl rfl ?_
      refine ax_s (pc' := 114) (st' := [.int (nI v), .int (10 * (nI j))]) rfl rfl rfl rfl ?_
      refine ax_s (pc' := 115) (st' := [.int ((10 * (nI j)) + (nI v))]) rfl rfl rfl rfl ?_
      refine ax_s (pc' := 119) (st' := [.int ((10 * (nI j)) + (nI v))]) rfl rfl rfl rfl ?_
      refine ax_s (pc' := 120) (ls' := [some (.ref 285), some (.int (nI t)), some (.int q), some (.int ((10 * (nI j)) + (nI v))), some (.int b), some (.int (nI j)), some (.int (nI v)), some (.int (w_sn rk0 g n t (am_u W 1 j (nI v)) 0)), some (.int 1)]) (st' := []) rfl rfl rfl rfl ?_
      refine ax_s (pc' := 122) (st' := [.int 1]) rfl rfl rfl rfl ?_
      refine ax_if_eq rfl (fun c6 => False.elim (by revert c6; decide)) (fun c6 => ?_)
      refine ax_s (pc' := 127) (st' := [.int (w_sn rk0 g n t (am_u W 1 j (nI v)) 0)]) rfl rfl rfl rfl ?_
      refine ax_s (pc' := 132) (st' := [.int (w_sn rk0 g n t (am_u W 1 j (nI v)) 0)]) rfl rfl rfl rfl ?_
      refine ax_s (pc' := 134) (ls' := [some (.ref 285), some (.int (nI t)), some (.int q), some (.int ((10 * (nI j)) + (nI v))), some (.int (w_sn rk0 g n t (am_u W 1 j (nI v)) 0)), some (.int (nI j)), some (.int (nI v)), some (.int (w_sn rk0 g n t (am_u W 1 j (nI v)) 0)), some (.int 1)]) (st' := []) rfl rfl rfl rfl ?_
      refine ax_s (pc' := 137) (ls' := [some (.ref 285), some (.int (nI t)), some (.int q), some (.int ((10 * (nI j)) + (nI v))), some (.int (w_sn rk0 g n t (am_u W 1 j (nI v)) 0)), some (.int (nI j)), some (.int ((nI v) + 1)), some (.int (w_sn rk0 g n t (am_u W 1 j (nI v)) 0)), some (.int 1)]) (st' := []) rfl rfl rfl rfl ?_
      rw [nI_1]
      refine ax_s (pc' := 53) (st' := []) rfl rfl rfl rfl ?_
      exact k2 c1 S2 hm2 hf2 S3 hm3 hf3 c4
    · refine ax_s (pc' := 90) (st' := [.int (w_sn rk0 g n t (am_u W 1 j (nI v)) 0)]) rfl rfl rfl rfl ?_
      refine ax_s (pc' := 92) (st' := [.int b, .int (w_sn rk0 g n t (am_u W 1 j (nI v)) 0)]) rfl rfl rfl rfl ?_
      refine ax_cmp_ge rfl (fun c7 => ?_) (fun c7 => ?_)
      · refine ax_s (pc' := 100) (st' := [.int 0]) rfl rfl rfl rfl ?_
        refine ax_s (pc' := 102) (ls' := [some (.ref 285), some (.int (nI t)), some (.int q), some (.int a), some (.int b), some (.int (nI j)), some (.int (nI v)), some (.int (w_sn rk0 g n t (am_u W 1 j (nI v)) 0)), some (.int 0)]) (st' := []) rfl rfl rfl rfl ?_
        refine ax_s (pc' := 104) (st' := [.int 0]) rfl rfl rfl rfl ?_
        refine ax_if_eq rfl (fun c8 => ?_) (fun c8 => False.elim (by revert c8; decide))
        refine ax_s (pc' := 119) (st' := [.int a]) rfl rfl rfl rfl ?_
        refine ax_s (pc' := 120) (ls' := [some (.ref 285), some (.int (nI t)), some (.int q), some (.int a), some (.int b), some (.int (nI j)), some (.int (nI v)), some (.int (w_sn rk0 g n t (am_u W 1 j (nI v)) 0)), some (.int 0)]) (st' := []) rfl rfl rfl rfl ?_
        refine ax_s (pc' := 122) (st' := [.int 0]) rfl rfl rfl rfl ?_
        refine ax_if_eq rfl (fun c9 => ?_) (fun c9 => False.elim (by revert c9; decide))
        refine ax_s (pc' := 132) (st' := [.int b]) rfl rfl rfl rfl ?_
        refine ax_s (pc' := 134) (ls' := [some (.ref 285), some (.int (nI t)), some (.int q), some (.int a), some (.int b), some (.int (nI j)), some (.int (nI v)), some (.int (w_sn rk0 g n t (am_u W 1 j (nI v)) 0)), some (.int 0)]) (st' := []) rfl rfl rfl rfl ?_
        refine ax_s (pc' := 137) (ls' := [some (.ref 285), some (.int (nI t)), some (.int q), some (.int a), some (.int b), some (.int (nI j)), some (.int ((nI v) + 1)), some (.int (w_sn rk0 g n t (am_u W 1 j (nI v)) 0)), some (.int 0)]) (st' := []) rfl rfl rfl rfl ?_
        rw [nI_1]
        refine ax_s (pc' := 53) (st' := []) rfl rfl rfl rfl ?_
        exact k3 c1 S2 hm2 hf2 S3 hm3 hf3 c4 c7
      · refine ax_s (pc' := 96) (st' := [.int 1]) rfl rfl rfl rfl ?_
        refine ax_s (pc' := 100) (st' := [.int 1]) rfl rfl rfl rfl ?_
        refine ax_s (pc' := 102) (ls' := [some (.ref 285), some (.int (nI t)), some (.int q), some (.int a), some (.int b), some (.int (nI j)), some (.int (nI v)), some (.int (w_sn rk0 g n t (am_u W 1 j (nI v)) 0)), some (.int 1)]) (st' := []) rfl rfl rfl rfl ?_
        refine ax_s (pc' := 104) (st' := [.int 1]) rfl rfl rfl rfl ?_
        refine ax_if_eq rfl (fun c10 => False.elim (by revert c10; decide)) (fun c10 => ?_)
        refine ax_s (pc' := 109) (st' := [.int 10]) rfl rfl rfl rfl ?_
        refine ax_s (pc' := 111) (st' := [.int (nI j), .int 10]) rfl rfl rfl rfl ?_
        refine ax_s (pc' := 112) (st' := [.int (10 * (nI j))]) rfl rfl rfl rfl ?_
        refine ax_s (pc' := 114) (st' := [.int (nI v), .int (10 * (nI j))]) rfl rfl rfl rfl ?_
        refine ax_s (pc' := 115) (st' := [.int ((10 * (nI j)) + (nI v))]) rfl rfl rfl rfl ?_
        refine ax_s (pc' := 119) (st' := [.int ((10 * (nI j)) + (nI v))]) rfl rfl rfl rfl ?_
        refine ax_s (pc' := 120) (ls' := [some (.ref 285), some (.int (nI t)), some (.int q), some (.int ((10 * (nI j)) + (nI v))), some (.int b), some (.int (nI j)), some (.int (nI v)), some (.int (w_sn rk0 g n t (am_u W 1 j (nI v)) 0)), some (.int 1)]) (st' := []) rfl rfl rfl rfl ?_
        refine ax_s (pc' := 122) (st' := [.int 1]) rfl rfl rfl rfl ?_
        refine ax_if_eq rfl (fun c11 => False.elim (by revert c11; decide)) (fun c11 => ?_)
        refine ax_s (pc' := 127) (st' := [.int (w_sn rk0 g n t (am_u W 1 j (nI v)) 0)]) rfl rfl rfl rfl ?_
        refine ax_s (pc' := 132) (st' := [.int (w_sn rk0 g n t (am_u W 1 j (nI v)) 0)]) rfl rfl rfl rfl ?_
        refine ax_s (pc' := 134) (ls' := [some (.ref 285), some (.int (nI t)), some (.int q), some (.int ((10 * (nI j)) + (nI v))), some (.int (w_sn rk0 g n t (am_u W 1 j (nI v)) 0)), some (.int (nI j)), some (.int (nI v)), some (.int (w_sn rk0 g n t (am_u W 1 j (nI v)) 0)), some (.int 1)]) (st' := []) rfl rfl rfl rfl ?_
        refine ax_s (pc' := 137) (ls' := [some (.ref 285), some (.int (nI t)), some (.int q), some (.int ((10 * (nI j)) + (nI v))), some (.int (w_sn rk0 g n t (am_u W 1 j (nI v)) 0)), some (.int (nI j)), some (.int ((nI v) + 1)), some (.int (w_sn rk0 g n t (am_u W 1 j (nI v)) 0)), some (.int 1)]) (st' := []) rfl rfl rfl rfl ?_
        rw [nI_1]
        refine ax_s (pc' := 53) (st' := []) rfl rfl rfl rfl ?_
        exact k4 c1 S2 hm2 hf2 S3 hm3 hf3 c4 c7
def g_k_load (S : Nat → Nat → Int32) (p q : Int32) : Prop := ¬ (S 20 4) ≤ 0 ∧ (¬ (p < 1 ∨ 40 < p)) ∧ (¬ (q < 0 ∨ 1 < q))
def eg_k_load (S : Nat → Nat → Int32) (p q : Int32) : Int32 := (if (S 20 4) ≤ 0 then (-1000002) else (if p < 1 ∨ 40 < p then (-1000001) else (if q < 0 ∨ 1 < q then (-1000001) else 0)))
theorem wg_k_load {d : Nat} {X : Nat × (Nat → Int32)} {S : Nat → Nat → Int32} {L : Nat → Int64} {p q : Int32} {Q : Option Value → am_H → Prop}  (hb : ¬ g_k_load S p q) (hQ : Q (some (.int (eg_k_load S p q))) (am_hh X S L)) : am_mt (d + 8) 96 [.ref 5, .int p, .int q] (am_hh X S L) Q := by
  refine ax_in (ls := [some (.ref 5), some (.int p), some (.int q)]) rfl ?_
  refine ax_s (pc' := 1) (st' := [.ref 5]) rfl rfl rfl rfl ?_
  refine ax_get rfl (hh_5 _ _ _) rfl rfl rfl ?_
  show am_ex (d + 8) 96 4 [some (.ref 5), some (.int p), some (.int q)] [.ref 20] (am_hh X S L) _
  refine ax_call (vs := [.ref 20]) (rr := []) rfl rfl rfl ?_
  refine kw (am_hh_sub isW20 X S L) (am_hh_sub isW20 X S L).symm (fun _ => ct_stands (am_isW_k isW20 X S L)) ?_
  show am_ex (d + 8) 96 7 [some (.ref 5), some (.int p), some (.int q)] [.int (bI (decide (¬ (S 20 4) ≤ 0)))] (am_hh X S L) _
  refine ax_qT rfl (fun c1 => ?_) (fun c1 => ?_)
  · refine ax_s (pc' := 14) (st' := [.int p]) rfl rfl rfl rfl ?_
    refine ax_s (pc' := 15) (st' := [.int 1, .int p]) rfl rfl rfl rfl ?_
    refine ax_s (pc' := 17) (st' := [.int 40, .int 1, .int p]) rfl rfl rfl rfl ?_
    refine ax_call (vs := [.int p, .int 1, .int 40]) (rr := []) rfl rfl rfl ?_
    refine ct_isOutside ?_
    show am_ex (d + 8) 96 20 [some (.ref 5), some (.int p), some (.int q)] [.int (bI (decide (p < 1 ∨ 40 < p)))] (am_hh X S L) _
    refine ax_pT rfl (fun c2 => ?_) (fun c2 => ?_)
    · refine ax_s (pc' := 34) (st' := [.int (-1000001)]) rfl rfl rfl rfl ?_
      refine ax_r rfl rfl rfl ?_
      unfold eg_k_load at hQ
      rw [if_neg c1, if_pos c2] at hQ
      exact hQ
    · refine ax_s (pc' := 24) (st' := [.int q]) rfl rfl rfl rfl ?_
      refine ax_s (pc' := 25) (st' := [.int 0, .int q]) rfl rfl rfl rfl ?_
      refine ax_s (pc' := 26) (st' := [.int 1, .int 0, .int q]) rfl rfl rfl rfl ?_
      refine ax_call (vs := [.int q, .int 0, .int 1]) (rr := []) rfl rfl rfl ?_
      refine ct_isOutside ?_
      show am_ex (d + 8) 96 29 [some (.ref 5), some (.int p), some (.int q)] [.int (bI (decide (q < 0 ∨ 1 < q)))] (am_hh X S L) _
      refine ax_pF rfl (fun c3 => ?_) (fun c3 => ?_)
      · exact absurd ⟨c1, c2, c3⟩ hb
      · refine ax_s (pc' := 34) (st' := [.int (-1000001)]) rfl rfl rfl rfl ?_
        refine ax_r rfl rfl rfl ?_
        unfold eg_k_load at hQ
        rw [if_neg c1, if_neg c2, if_pos c3] at hQ
        exact hQ
  · refine ax_s (pc' := 12) (st' := [.int (-1000002)]) rfl rfl rfl rfl ?_
    refine ax_r rfl rfl rfl ?_
    unfold eg_k_load at hQ
    rw [if_pos c1] at hQ
    exact hQ
def g_m_load (S : Nat → Nat → Int32) (p q : Int32) : Prop := ¬ ((S 285 8) = 0) ∧ (¬ p < 1 ∧ ¬ 40 < p) ∧ (¬ q < 0 ∧ ¬ 1 < q)
def eg_m_load (S : Nat → Nat → Int32) (p q : Int32) : Int32 := (if (S 285 8) = 0 then (-1000002) else (if ¬ p < 1 ∧ ¬ 40 < p then (if ¬ q < 0 ∧ ¬ 1 < q then 0 else (-1000001)) else (-1000001)))
theorem wg_m_load {d : Nat} {X : Nat × (Nat → Int32)} {S : Nat → Nat → Int32} {L : Nat → Int64} {p q : Int32} {Q : Option Value → am_H → Prop}  (hb : ¬ g_m_load S p q) (hQ : Q (some (.int (eg_m_load S p q))) (am_hh X S L)) : am_mt (d + 8) 204 [.ref 285, .int p, .int q] (am_hh X S L) Q := by
  refine ax_in (ls := [some (.ref 285), some (.int p), some (.int q), none, none, none, none, none, none]) rfl ?_
  refine ax_s (pc' := 1) (st' := [.ref 285]) rfl rfl rfl rfl ?_
  refine ax_call (vs := [.ref 285]) (rr := []) rfl rfl rfl ?_
  refine mt_isNone  ?_
  show am_ex (d + 8) 204 4 [some (.ref 285), some (.int p), some (.int q), none, none, none, none, none, none] [.int (bI (decide ((S 285 8) = 0)))] (am_hh X S L) _
  refine ax_pF rfl (fun c1 => ?_) (fun c1 => ?_)
  · refine ax_s (pc' := 11) (st' := [.int p]) rfl rfl rfl rfl ?_
    refine ax_s (pc' := 12) (st' := [.int 1, .int p]) rfl rfl rfl rfl ?_
    refine ax_s (pc' := 14) (st' := [.int 40, .int 1, .int p]) rfl rfl rfl rfl ?_
    refine ax_call (vs := [.int p, .int 1, .int 40]) (rr := []) rfl rfl rfl ?_
    refine mt_in ?_
    show am_ex (d + 8) 204 17 [some (.ref 285), some (.int p), some (.int q), none, none, none, none, none, none] [.int (bI (decide (¬ p < 1 ∧ ¬ 40 < p)))] (am_hh X S L) _
    refine ax_pF rfl (fun c2 => ?_) (fun c2 => ?_)
    · refine ax_s (pc' := 31) (st' := [.int (-1000001)]) rfl rfl rfl rfl ?_
      refine ax_r rfl rfl rfl ?_
      unfold eg_m_load at hQ
      rw [if_neg c1, if_neg c2] at hQ
      exact hQ
    · refine ax_s (pc' := 21) (st' := [.int q]) rfl rfl rfl rfl ?_
      refine ax_s (pc' := 22) (st' := [.int 0, .int q]) rfl rfl rfl rfl ?_
      refine ax_s (pc' := 23) (st' := [.int 1, .int 0, .int q]) rfl rfl rfl rfl ?_
      refine ax_call (vs := [.int q, .int 0, .int 1]) (rr := []) rfl rfl rfl ?_
      refine mt_in ?_
      show am_ex (d + 8) 204 26 [some (.ref 285), some (.int p), some (.int q), none, none, none, none, none, none] [.int (bI (decide (¬ q < 0 ∧ ¬ 1 < q)))] (am_hh X S L) _
      refine ax_pT rfl (fun c3 => ?_) (fun c3 => ?_)
      · exact absurd ⟨c1, c2, c3⟩ hb
      · refine ax_s (pc' := 31) (st' := [.int (-1000001)]) rfl rfl rfl rfl ?_
        refine ax_r rfl rfl rfl ?_
        unfold eg_m_load at hQ
        rw [if_neg c1, if_pos c2, if_neg c3] at hQ
        exact hQ
  · refine ax_s (pc' := 9) (st' := [.int (-1000002)]) rfl rfl rfl rfl ?_
    refine ax_r rfl rfl rfl ?_
    unfold eg_m_load at hQ
    rw [if_pos c1] at hQ
    exact hQ
theorem wv_k_load {d : Nat} {X : Nat × (Nat → Int32)} {S : Nat → Nat → Int32} {L : Nat → Int64} {g n : Nat} {t : Nat} {q : Int32} {Q : Option Value → am_H → Prop} (hf : wF (am_sub S 20) g n) (hc9 : w_cl (am_sub S 29)) (hc0 : w_cl (am_sub S 20))  (hg : g_k_load S (nI t) q) (x1 : t < 1000) (k1 : ∀ S1 : Nat → Nat → Int32, ∀ b1 : Option (Nat × Nat), ld_g (am_sub S 20) g n t g 0 none = b1 → (S1 277 7 = ld_b b1 ∧ S1 277 8 = nI (ld_e t b1)) → FR S S1 → ¬ q = 0 → Q (some (.int (S1 277 8))) (am_hh X S1 L)) (k2 : ∀ S1 : Nat → Nat → Int32, ∀ b1 : Option (Nat × Nat), ld_g (am_sub S 20) g n t g 0 none = b1 → (S1 277 7 = ld_b b1 ∧ S1 277 8 = nI (ld_e t b1)) → FR S S1 → q = 0 → Q (some (.int (S1 277 7))) (am_hh X S1 L)) : am_mt (d + 8) 96 [.ref 5, .int (nI t), .int q] (am_hh X S L) Q := by
  refine ax_in (ls := [some (.ref 5), some (.int (nI t)), some (.int q)]) rfl ?_
  refine ax_s (pc' := 1) (st' := [.ref 5]) rfl rfl rfl rfl ?_
  refine ax_get rfl (hh_5 _ _ _) rfl rfl rfl ?_
  show am_ex (d + 8) 96 4 [some (.ref 5), some (.int (nI t)), some (.int q)] [.ref 20] (am_hh X S L) _
  refine ax_call (vs := [.ref 20]) (rr := []) rfl rfl rfl ?_
  refine kw (am_hh_sub isW20 X S L) (am_hh_sub isW20 X S L).symm (fun _ => ct_stands (am_isW_k isW20 X S L)) ?_
  show am_ex (d + 8) 96 7 [some (.ref 5), some (.int (nI t)), some (.int q)] [.int (bI (decide (¬ (S 20 4) ≤ 0)))] (am_hh X S L) _
  refine ax_qT rfl (fun c1 => ?_) (fun c1 => ?_)
  · refine ax_s (pc' := 14) (st' := [.int (nI t)]) rfl rfl rfl rfl ?_
    refine ax_s (pc' := 15) (st' := [.int 1, .int (nI t)]) rfl rfl rfl rfl ?_
    refine ax_s (pc' := 17) (st' := [.int 40, .int 1, .int (nI t)]) rfl rfl rfl rfl ?_
    refine ax_call (vs := [.int (nI t), .int 1, .int 40]) (rr := []) rfl rfl rfl ?_
    refine ct_isOutside ?_
    show am_ex (d + 8) 96 20 [some (.ref 5), some (.int (nI t)), some (.int q)] [.int (bI (decide ((nI t) < 1 ∨ 40 < (nI t))))] (am_hh X S L) _
    refine ax_pT rfl (fun c2 => ?_) (fun c2 => ?_)
    · refine ax_s (pc' := 34) (st' := [.int (-1000001)]) rfl rfl rfl rfl ?_
      refine ax_r rfl rfl rfl ?_
      first | exact absurd (hg.2.1) c2 | exact absurd c2 (hg.2.1) | exact absurd (hg.2.1) (ne_true_of_eq_false c2)
    · refine ax_s (pc' := 24) (st' := [.int q]) rfl rfl rfl rfl ?_
      refine ax_s (pc' := 25) (st' := [.int 0, .int q]) rfl rfl rfl rfl ?_
      refine ax_s (pc' := 26) (st' := [.int 1, .int 0, .int q]) rfl rfl rfl rfl ?_
      refine ax_call (vs := [.int q, .int 0, .int 1]) (rr := []) rfl rfl rfl ?_
      refine ct_isOutside ?_
      show am_ex (d + 8) 96 29 [some (.ref 5), some (.int (nI t)), some (.int q)] [.int (bI (decide (q < 0 ∨ 1 < q)))] (am_hh X S L) _
      refine ax_pF rfl (fun c3 => ?_) (fun c3 => ?_)
      · refine ax_s (pc' := 36) (st' := [.ref 5]) rfl rfl rfl rfl ?_
        refine ax_get rfl (hh_5 _ _ _) rfl rfl rfl ?_
        show am_ex (d + 8) 96 39 [some (.ref 5), some (.int (nI t)), some (.int q)] [.ref 277] (am_hh X S L) _
        refine ax_s (pc' := 40) (st' := [.int (nI t), .ref 277]) rfl rfl rfl rfl ?_
        refine ax_call (vs := [.ref 277, .int (nI t)]) (rr := []) rfl rfl rfl ?_
        refine kt_load x1 hf hc9 hc0 (fun S1 b1 e1 h1 r1 => ?_)
        show am_ex (d + 8) 96 43 [some (.ref 5), some (.int (nI t)), some (.int q)] [] (am_hh X S1 L) _
        refine ax_s (pc' := 44) (st' := [.int q]) rfl rfl rfl rfl ?_
        refine ax_if_ne rfl (fun c2 => ?_) (fun c2 => ?_)
        · refine ax_s (pc' := 58) (st' := [.ref 5]) rfl rfl rfl rfl ?_
          refine ax_get rfl (hh_5 _ _ _) rfl rfl rfl ?_
          show am_ex (d + 8) 96 61 [some (.ref 5), some (.int (nI t)), some (.int q)] [.ref 277] (am_hh X S1 L) _
          refine ax_get rfl (hh_277 _ _ _) rfl rfl rfl ?_
          show am_ex (d + 8) 96 64 [some (.ref 5), some (.int (nI t)), some (.int q)] [.int (S1 277 8)] (am_hh X S1 L) _
          refine ax_r rfl rfl rfl ?_
          exact k1 S1 b1 e1 h1 r1 c2
        · refine ax_s (pc' := 48) (st' := [.ref 5]) rfl rfl rfl rfl ?_
          refine ax_get rfl (hh_5 _ _ _) rfl rfl rfl ?_
          show am_ex (d + 8) 96 51 [some (.ref 5), some (.int (nI t)), some (.int q)] [.ref 277] (am_hh X S1 L) _
          refine ax_get rfl (hh_277 _ _ _) rfl rfl rfl ?_
          show am_ex (d + 8) 96 54 [some (.ref 5), some (.int (nI t)), some (.int q)] [.int (S1 277 7)] (am_hh X S1 L) _
          refine ax_s (pc' := 64) (st' := [.int (S1 277 7)]) rfl rfl rfl rfl ?_
          refine ax_r rfl rfl rfl ?_
          exact k2 S1 b1 e1 h1 r1 c2
      · refine ax_s (pc' := 34) (st' := [.int (-1000001)]) rfl rfl rfl rfl ?_
        refine ax_r rfl rfl rfl ?_
        first | exact absurd (hg.2.2) c3 | exact absurd c3 (hg.2.2) | exact absurd (hg.2.2) (ne_true_of_eq_false c3)
  · refine ax_s (pc' := 12) (st' := [.int (-1000002)]) rfl rfl rfl rfl ?_
    refine ax_r rfl rfl rfl ?_
    first | exact absurd (hg.1) c1 | exact absurd c1 (hg.1) | exact absurd (hg.1) (ne_true_of_eq_false c1)
theorem wv_m_load {d : Nat} {X : Nat × (Nat → Int32)} {S : Nat → Nat → Int32} {L : Nat → Int64} {t : Nat} {q : Int32} {Q : Option Value → am_H → Prop}  (hg : g_m_load S (nI t) q) (k1 : am_ex (d + 8) 204 41 [some (.ref 285), some (.int (nI t)), some (.int q), some (.int (-1000000)), some (.int 0), some (.int 0), none, none, none] [] (am_hh X S L) Q) : am_mt (d + 8) 204 [.ref 285, .int (nI t), .int q] (am_hh X S L) Q := by
  refine ax_in (ls := [some (.ref 285), some (.int (nI t)), some (.int q), none, none, none, none, none, none]) rfl ?_
  refine ax_s (pc' := 1) (st' := [.ref 285]) rfl rfl rfl rfl ?_
  refine ax_call (vs := [.ref 285]) (rr := []) rfl rfl rfl ?_
  refine mt_isNone  ?_
  show am_ex (d + 8) 204 4 [some (.ref 285), some (.int (nI t)), some (.int q), none, none, none, none, none, none] [.int (bI (decide ((S 285 8) = 0)))] (am_hh X S L) _
  refine ax_pF rfl (fun c1 => ?_) (fun c1 => ?_)
  · refine ax_s (pc' := 11) (st' := [.int (nI t)]) rfl rfl rfl rfl ?_
    refine ax_s (pc' := 12) (st' := [.int 1, .int (nI t)]) rfl rfl rfl rfl ?_
    refine ax_s (pc' := 14) (st' := [.int 40, .int 1, .int (nI t)]) rfl rfl rfl rfl ?_
    refine ax_call (vs := [.int (nI t), .int 1, .int 40]) (rr := []) rfl rfl rfl ?_
    refine mt_in ?_
    show am_ex (d + 8) 204 17 [some (.ref 285), some (.int (nI t)), some (.int q), none, none, none, none, none, none] [.int (bI (decide (¬ (nI t) < 1 ∧ ¬ 40 < (nI t))))] (am_hh X S L) _
    refine ax_pF rfl (fun c2 => ?_) (fun c2 => ?_)
    · refine ax_s (pc' := 31) (st' := [.int (-1000001)]) rfl rfl rfl rfl ?_
      refine ax_r rfl rfl rfl ?_
      first | exact absurd (hg.2.1) c2 | exact absurd c2 (hg.2.1) | exact absurd (hg.2.1) (ne_true_of_eq_false c2)
    · refine ax_s (pc' := 21) (st' := [.int q]) rfl rfl rfl rfl ?_
      refine ax_s (pc' := 22) (st' := [.int 0, .int q]) rfl rfl rfl rfl ?_
      refine ax_s (pc' := 23) (st' := [.int 1, .int 0, .int q]) rfl rfl rfl rfl ?_
      refine ax_call (vs := [.int q, .int 0, .int 1]) (rr := []) rfl rfl rfl ?_
      refine mt_in ?_
      show am_ex (d + 8) 204 26 [some (.ref 285), some (.int (nI t)), some (.int q), none, none, none, none, none, none] [.int (bI (decide (¬ q < 0 ∧ ¬ 1 < q)))] (am_hh X S L) _
      refine ax_pT rfl (fun c3 => ?_) (fun c3 => ?_)
      · refine ax_s (pc' := 34) (st' := [.int (-1000000)]) rfl rfl rfl rfl ?_
        refine ax_s (pc' := 35) (ls' := [some (.ref 285), some (.int (nI t)), some (.int q), some (.int (-1000000)), none, none, none, none, none]) (st' := []) rfl rfl rfl rfl ?_
        refine ax_s (pc' := 36) (st' := [.int 0]) rfl rfl rfl rfl ?_
        refine ax_s (pc' := 38) (ls' := [some (.ref 285), some (.int (nI t)), some (.int q), some (.int (-1000000)), some (.int 0), none, none, none, none]) (st' := []) rfl rfl rfl rfl ?_
        refine ax_s (pc' := 39) (st' := [.int 0]) rfl rfl rfl rfl ?_
        refine ax_s (pc' := 41) (ls' := [some (.ref 285), some (.int (nI t)), some (.int q), some (.int (-1000000)), some (.int 0), some (.int 0), none, none, none]) (st' := []) rfl rfl rfl rfl ?_
        exact k1
      · refine ax_s (pc' := 31) (st' := [.int (-1000001)]) rfl rfl rfl rfl ?_
        refine ax_r rfl rfl rfl ?_
        first | exact absurd (hg.2.2) c3 | exact absurd c3 (hg.2.2) | exact absurd (hg.2.2) (ne_true_of_eq_false c3)
  · refine ax_s (pc' := 9) (st' := [.int (-1000002)]) rfl rfl rfl rfl ?_
    refine ax_r rfl rfl rfl ?_
    first | exact absurd (hg.1) c1 | exact absurd c1 (hg.1) | exact absurd (hg.1) (ne_true_of_eq_false c1)
