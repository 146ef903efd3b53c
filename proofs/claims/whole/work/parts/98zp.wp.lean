theorem wl_fo {d : Nat} {X : Nat × (Nat → Int32)} {S : Nat → Nat → Int32} {L : Nat → Int64} {g n m i : Nat} {r : Nat → Nat} {b : Bool} {Q : Option Value → am_H → Prop} (hm : m < 1000) (hn : S 20 4 = nI n) (h1 : 1 ≤ n) (h6 : n ≤ 6) (ha : ∀ k, k < 6 → S 278 k = nI (r k)) (hr : ∀ k, k < 6 → r k < 6) (hf : wF (am_sub S 20) g n) (hc9 : w_cl (am_sub S 29)) (hc0 : w_cl (am_sub S 20))  (k1 : 720 ≤ (nI i) → Q none (am_hh X S L)) (k2 : ¬ 720 ≤ (nI i) → b = false → Q none (am_hh X S L)) (k3 : ¬ 720 ≤ (nI i) → b = true → (vf (S 25) r (n - 1) 0) = false → ∀ b4 : Bool, ∀ S4 : Nat → Nat → Int32, NR 278 r n S S4 b4 → am_ex (d + 6) 89 42 [some (.ref 277), some (.int (nI m)), some (.int (bI b4)), some (.int (nI (i + 1)))] [] (am_hh X S4 L) Q) (k4 : ¬ 720 ≤ (nI i) → b = true → (vf (S 25) r (n - 1) 0) = true → ∀ S5 : Nat → Nat → Int32, TR g n m S S5 → ∀ b6 : Bool, ∀ S6 : Nat → Nat → Int32, NR 278 r n S5 S6 b6 → am_ex (d + 6) 89 42 [some (.ref 277), some (.int (nI m)), some (.int (bI b6)), some (.int (nI (i + 1)))] [] (am_hh X S6 L) Q) : am_ex (d + 6) 89 42 [some (.ref 277), some (.int (nI m)), some (.int (bI b)), some (.int (nI i))] [] (am_hh X S L) Q := by
  refine ax_s (pc' := 43) (st' := [.int (nI i)]) rfl rfl rfl rfl ?_
  refine ax_s (pc' := 46) (st' := [.int 720, .int (nI i)]) rfl rfl rfl rfl ?_
  refine ax_cmp_ge rfl (fun c1 => ?_) (fun c1 => ?_)
  · refine ax_r rfl rfl rfl ?_
    exact k1 c1
  · refine ax_s (pc' := 50) (st' := [.int (bI b)]) rfl rfl rfl rfl ?_
    refine ax_bF rfl (fun c2 => ?_) (fun c2 => ?_)
    · refine ax_r rfl rfl rfl ?_
      exact k2 c1 c2
    · refine ax_s (pc' := 54) (st' := [.ref 277]) rfl rfl rfl rfl ?_
      refine ax_call (vs := [.ref 277]) (rr := []) rfl rfl rfl ?_
      refine kt_first hn h1 h6 ha hr ?_
      show am_ex (d + 6) 89 57 [some (.ref 277), some (.int (nI m)), some (.int (bI b)), some (.int (nI i))] [.int (bI (vf (S 25) r (n - 1) 0))] (am_hh X S L) _
      refine ax_bF rfl (fun c3 => ?_) (fun c3 => ?_)
      · refine ax_s (pc' := 66) (st' := [.ref 277]) rfl rfl rfl rfl ?_
        refine ax_call (vs := [.ref 277]) (rr := []) rfl rfl rfl ?_
        refine kt_nextRank hn h1 h6 ha hr (fun b4 S4 n4 => ?_)
        show am_ex (d + 6) 89 69 [some (.ref 277), some (.int (nI m)), some (.int (bI b)), some (.int (nI i))] [.int (bI b4)] (am_hh X S4 L) _
        refine ax_s (pc' := 70) (ls' := [some (.ref 277), some (.int (nI m)), some (.int (bI b4)), some (.int (nI i))]) (st' := []) rfl rfl rfl rfl ?_
        refine ax_s (pc' := 73) (ls' := [some (.ref 277), some (.int (nI m)), some (.int (bI b4)), some (.int ((nI i) + 1))]) (st' := []) rfl rfl rfl rfl ?_
        rw [nI_1]
        refine ax_s (pc' := 42) (st' := []) rfl rfl rfl rfl ?_
        exact k3 c1 c2 c3 b4 S4 n4
      · refine ax_s (pc' := 61) (st' := [.ref 277]) rfl rfl rfl rfl ?_
        refine ax_s (pc' := 62) (st' := [.int (nI m), .ref 277]) rfl rfl rfl rfl ?_
        refine ax_call (vs := [.ref 277, .int (nI m)]) (rr := []) rfl rfl rfl ?_
        refine kt_tryRank hm hf hc9 hc0 (fun S5 t5 => ?_)
        show am_ex (d + 6) 89 65 [some (.ref 277), some (.int (nI m)), some (.int (bI b)), some (.int (nI i))] [] (am_hh X S5 L) _
        refine ax_s (pc' := 66) (st' := [.ref 277]) rfl rfl rfl rfl ?_
        refine ax_call (vs := [.ref 277]) (rr := []) rfl rfl rfl ?_
        refine kt_nextRank (TR_n t5 hn) h1 h6 (TR_a t5 ha) hr (fun b6 S6 n6 => ?_)
        show am_ex (d + 6) 89 69 [some (.ref 277), some (.int (nI m)), some (.int (bI b)), some (.int (nI i))] [.int (bI b6)] (am_hh X S6 L) _
        refine ax_s (pc' := 70) (ls' := [some (.ref 277), some (.int (nI m)), some (.int (bI b6)), some (.int (nI i))]) (st' := []) rfl rfl rfl rfl ?_
        refine ax_s (pc' := 73) (ls' := [some (.ref 277), some (.int (nI m)), some (.int (bI b6)), some (.int ((nI i) + 1))]) (st' := []) rfl rfl rfl rfl ?_
        rw [nI_1]
        refine ax_s (pc' := 42) (st' := []) rfl rfl rfl rfl ?_
        exact k4 c1 c2 c3 S5 t5 b6 S6 n6
theorem wl_fo_x {d : Nat} {X : Nat × (Nat → Int32)} {S : Nat → Nat → Int32} {L : Nat → Int64} {m i : Nat} {Q : Option Value → am_H → Prop}  (k1 : 720 ≤ (nI i) → Q none (am_hh X S L)) (k2 : ¬ 720 ≤ (nI i) → Q none (am_hh X S L)) : am_ex (d + 6) 89 42 [some (.ref 277), some (.int (nI m)), some (.int 0), some (.int (nI i))] [] (am_hh X S L) Q := by
  refine ax_s (pc' := 43) (st' := [.int (nI i)]) rfl rfl rfl rfl ?_
  refine ax_s (pc' := 46) (st' := [.int 720, .int (nI i)]) rfl rfl rfl rfl ?_
  refine ax_cmp_ge rfl (fun c1 => ?_) (fun c1 => ?_)
  · refine ax_r rfl rfl rfl ?_
    exact k1 c1
  · refine ax_s (pc' := 50) (st' := [.int 0]) rfl rfl rfl rfl ?_
    refine ax_if_eq rfl (fun c2 => ?_) (fun c2 => False.elim (by revert c2; decide))
    refine ax_r rfl rfl rfl ?_
    exact k2 c1
theorem wp_fo {d : Nat} {X : Nat × (Nat → Int32)} {S : Nat → Nat → Int32} {L : Nat → Int64} {m : Nat} {Q : Option Value → am_H → Prop}  (k1 : ¬ (S 277 3) = (nI m) → am_ex (d + 6) 89 42 [some (.ref 277), some (.int (nI m)), some (.int 1), some (.int 0)] [] (am_hh X (am_uc (am_u (am_u (am_u S 277 3 (nI m)) 277 6 (-1)) 277 4 (-1)) 278 (va_cpy rk0 (S 278) 0 0 6)) L) Q) (k2 : (S 277 3) = (nI m) → Q none (am_hh X S L)) : am_mt (d + 6) 89 [.ref 277, .int (nI m)] (am_hh X S L) Q := by
  refine ax_in (ls := [some (.ref 277), some (.int (nI m)), none, none]) rfl ?_
  refine ax_s (pc' := 1) (st' := [.ref 277]) rfl rfl rfl rfl ?_
  refine ax_get rfl (hh_277 _ _ _) rfl rfl rfl ?_
  show am_ex (d + 6) 89 4 [some (.ref 277), some (.int (nI m)), none, none] [.int (S 277 3)] (am_hh X S L) _
  refine ax_s (pc' := 5) (st' := [.int (nI m), .int (S 277 3)]) rfl rfl rfl rfl ?_
  refine ax_cmp_ne rfl (fun c1 => ?_) (fun c1 => ?_)
  · refine ax_s (pc' := 10) (st' := [.ref 277]) rfl rfl rfl rfl ?_
    refine ax_s (pc' := 11) (st' := [.int (nI m), .ref 277]) rfl rfl rfl rfl ?_
    refine ax_put rfl (hh_277 _ _ _) rfl rfl (show 3 + 1 ≤ _ from Nat.le_of_ble_eq_true rfl) rfl (am_hh_set _ _ _ 277 3 _ rfl) ?_
    refine ax_s (pc' := 15) (st' := [.ref 277]) rfl rfl rfl rfl ?_
    refine ax_s (pc' := 16) (st' := [.int (-1), .ref 277]) rfl rfl rfl rfl ?_
    refine ax_put rfl (hh_277 _ _ _) rfl rfl (show 6 + 1 ≤ _ from Nat.le_of_ble_eq_true rfl) rfl (am_hh_set _ _ _ 277 6 _ rfl) ?_
    refine ax_s (pc' := 20) (st' := [.ref 277]) rfl rfl rfl rfl ?_
    refine ax_s (pc' := 21) (st' := [.int (-1), .ref 277]) rfl rfl rfl rfl ?_
    refine ax_put rfl (hh_277 _ _ _) rfl rfl (show 4 + 1 ≤ _ from Nat.le_of_ble_eq_true rfl) rfl (am_hh_set _ _ _ 277 4 _ rfl) ?_
    refine ax_s (pc' := 27) (st' := [.ref 1]) rfl rfl rfl rfl ?_
    refine ax_s (pc' := 28) (st' := [.int 0, .ref 1]) rfl rfl rfl rfl ?_
    refine ax_s (pc' := 29) (st' := [.ref 277, .int 0, .ref 1]) rfl rfl rfl rfl ?_
    refine ax_get rfl (hh_277 _ _ _) rfl rfl rfl ?_
    show am_ex (d + 6) 89 32 [some (.ref 277), some (.int (nI m)), none, none] [.ref 278, .int 0, .ref 1] (am_hh X (am_u (am_u (am_u S 277 3 (nI m)) 277 6 (-1)) 277 4 (-1)) L) _
    refine ax_s (pc' := 33) (st' := [.int 0, .ref 278, .int 0, .ref 1]) rfl rfl rfl rfl ?_
    refine ax_s (pc' := 35) (st' := [.int 6, .int 0, .ref 278, .int 0, .ref 1]) rfl rfl rfl rfl ?_
    refine ax_cpy (s1 := 0) (d1 := 0) (m1 := 6) rfl (hh_s1 _ _ _) (hh_278 _ _ _) rfl rfl rfl (by decide) (by decide) ⟨by decide, by decide⟩ rfl rfl (Nat.le_of_ble_eq_true rfl) (am_hh_setc _ _ _ 278 _ rfl) ?_
    refine ax_s (pc' := 39) (st' := [.int 1]) rfl rfl rfl rfl ?_
    refine ax_s (pc' := 40) (ls' := [some (.ref 277), some (.int (nI m)), some (.int 1), none]) (st' := []) rfl rfl rfl rfl ?_
    refine ax_s (pc' := 41) (st' := [.int 0]) rfl rfl rfl rfl ?_
    refine ax_s (pc' := 42) (ls' := [some (.ref 277), some (.int (nI m)), some (.int 1), some (.int 0)]) (st' := []) rfl rfl rfl rfl ?_
    exact k1 c1
  · refine ax_r rfl rfl rfl ?_
    exact k2 c1
def g_k_order (S : Nat → Nat → Int32) (p q : Int32) : Prop := ¬ (S 20 4) ≤ 0 ∧ (¬ (p < 1 ∨ 40 < p)) ∧ (-1) ≤ q
def eg_k_order (S : Nat → Nat → Int32) (p q : Int32) : Int32 := (if (S 20 4) ≤ 0 then (-1000002) else (if p < 1 ∨ 40 < p then (-1000001) else (if (-1) ≤ q then 0 else (-1000001))))
theorem wg_k_order {d : Nat} {X : Nat × (Nat → Int32)} {S : Nat → Nat → Int32} {L : Nat → Int64} {p q : Int32} {Q : Option Value → am_H → Prop}   (hb : ¬ g_k_order S p q) (hQ : Q (some (.int (eg_k_order S p q))) (am_hh X S L)) : am_mt (d + 8) 88 [.ref 5, .int p, .int q] (am_hh X S L) Q := by
  refine ax_in (ls := [some (.ref 5), some (.int p), some (.int q)]) rfl ?_
  refine ax_s (pc' := 1) (st' := [.ref 5]) rfl rfl rfl rfl ?_
  refine ax_get rfl (hh_5 _ _ _) rfl rfl rfl ?_
  show am_ex (d + 8) 88 4 [some (.ref 5), some (.int p), some (.int q)] [.ref 20] (am_hh X S L) _
  refine ax_call (vs := [.ref 20]) (rr := []) rfl rfl rfl ?_
  refine kw (am_hh_sub isW20 X S L) (am_hh_sub isW20 X S L).symm (fun _ => ct_stands (am_isW_k isW20 X S L)) ?_
  show am_ex (d + 8) 88 7 [some (.ref 5), some (.int p), some (.int q)] [.int (bI (decide (¬ (S 20 4) ≤ 0)))] (am_hh X S L) _
  refine ax_qT rfl (fun c1 => ?_) (fun c1 => ?_)
  · refine ax_s (pc' := 14) (st' := [.int p]) rfl rfl rfl rfl ?_
    refine ax_s (pc' := 15) (st' := [.int 1, .int p]) rfl rfl rfl rfl ?_
    refine ax_s (pc' := 17) (st' := [.int 40, .int 1, .int p]) rfl rfl rfl rfl ?_
    refine ax_call (vs := [.int p, .int 1, .int 40]) (rr := []) rfl rfl rfl ?_
    refine ct_isOutside ?_
    show am_ex (d + 8) 88 20 [some (.ref 5), some (.int p), some (.int q)] [.int (bI (decide (p < 1 ∨ 40 < p)))] (am_hh X S L) _
    refine ax_pT rfl (fun c2 => ?_) (fun c2 => ?_)
    · refine ax_s (pc' := 30) (st' := [.int (-1000001)]) rfl rfl rfl rfl ?_
      refine ax_r rfl rfl rfl ?_
      unfold eg_k_order at hQ
      rw [if_neg c1, if_pos c2] at hQ
      exact hQ
    · refine ax_s (pc' := 24) (st' := [.int q]) rfl rfl rfl rfl ?_
      refine ax_s (pc' := 25) (st' := [.int (-1), .int q]) rfl rfl rfl rfl ?_
      refine ax_cmp_ge rfl (fun c3 => ?_) (fun c3 => ?_)
      · exact absurd ⟨c1, c2, c3⟩ hb
      · refine ax_s (pc' := 30) (st' := [.int (-1000001)]) rfl rfl rfl rfl ?_
        refine ax_r rfl rfl rfl ?_
        unfold eg_k_order at hQ
        rw [if_neg c1, if_neg c2, if_neg c3] at hQ
        exact hQ
  · refine ax_s (pc' := 12) (st' := [.int (-1000002)]) rfl rfl rfl rfl ?_
    refine ax_r rfl rfl rfl ?_
    unfold eg_k_order at hQ
    rw [if_pos c1] at hQ
    exact hQ
def g_m_order (S : Nat → Nat → Int32) (p q : Int32) : Prop := ¬ ((S 285 8) = 0) ∧ (¬ p < 1 ∧ ¬ 40 < p) ∧ (-1) ≤ q
def eg_m_order (S : Nat → Nat → Int32) (p q : Int32) : Int32 := (if (S 285 8) = 0 then (-1000002) else (if ¬ p < 1 ∧ ¬ 40 < p then (if (-1) ≤ q then 0 else (-1000001)) else (-1000001)))
theorem wg_m_order {d : Nat} {X : Nat × (Nat → Int32)} {S : Nat → Nat → Int32} {L : Nat → Int64} {p q : Int32} {Q : Option Value → am_H → Prop}   (hb : ¬ g_m_order S p q) (hQ : Q (some (.int (eg_m_order S p q))) (am_hh X S L)) : am_mt (d + 8) 200 [.ref 285, .int p, .int q] (am_hh X S L) Q := by
  refine ax_in (ls := [some (.ref 285), some (.int p), some (.int q), none, none, none, none, none]) rfl ?_
  refine ax_s (pc' := 1) (st' := [.ref 285]) rfl rfl rfl rfl ?_
  refine ax_call (vs := [.ref 285]) (rr := []) rfl rfl rfl ?_
  refine mt_isNone  ?_
  show am_ex (d + 8) 200 4 [some (.ref 285), some (.int p), some (.int q), none, none, none, none, none] [.int (bI (decide ((S 285 8) = 0)))] (am_hh X S L) _
  refine ax_pF rfl (fun c1 => ?_) (fun c1 => ?_)
  · refine ax_s (pc' := 11) (st' := [.int p]) rfl rfl rfl rfl ?_
    refine ax_s (pc' := 12) (st' := [.int 1, .int p]) rfl rfl rfl rfl ?_
    refine ax_s (pc' := 14) (st' := [.int 40, .int 1, .int p]) rfl rfl rfl rfl ?_
    refine ax_call (vs := [.int p, .int 1, .int 40]) (rr := []) rfl rfl rfl ?_
    refine mt_in ?_
    show am_ex (d + 8) 200 17 [some (.ref 285), some (.int p), some (.int q), none, none, none, none, none] [.int (bI (decide (¬ p < 1 ∧ ¬ 40 < p)))] (am_hh X S L) _
    refine ax_pF rfl (fun c2 => ?_) (fun c2 => ?_)
    · refine ax_s (pc' := 27) (st' := [.int (-1000001)]) rfl rfl rfl rfl ?_
      refine ax_r rfl rfl rfl ?_
      unfold eg_m_order at hQ
      rw [if_neg c1, if_neg c2] at hQ
      exact hQ
    · refine ax_s (pc' := 21) (st' := [.int q]) rfl rfl rfl rfl ?_
      refine ax_s (pc' := 22) (st' := [.int (-1), .int q]) rfl rfl rfl rfl ?_
      refine ax_cmp_ge rfl (fun c3 => ?_) (fun c3 => ?_)
      · exact absurd ⟨c1, c2, c3⟩ hb
      · refine ax_s (pc' := 27) (st' := [.int (-1000001)]) rfl rfl rfl rfl ?_
        refine ax_r rfl rfl rfl ?_
        unfold eg_m_order at hQ
        rw [if_neg c1, if_pos c2, if_neg c3] at hQ
        exact hQ
  · refine ax_s (pc' := 9) (st' := [.int (-1000002)]) rfl rfl rfl rfl ?_
    refine ax_r rfl rfl rfl ?_
    unfold eg_m_order at hQ
    rw [if_pos c1] at hQ
    exact hQ
theorem wv_k_order {d : Nat} {X : Nat × (Nat → Int32)} {S : Nat → Nat → Int32} {L : Nat → Int64} {g n m : Nat} {q : Int32} {Q : Option Value → am_H → Prop} (hO : ∀ Q : Option Value → am_H → Prop, (∀ S1, FO (am_sub S 20) g n m S S1 → Q none (am_hh X S1 L)) → am_mt (d + 7) 89 [.ref 277, .int (nI m)] (am_hh X S L) Q)  (hg : ¬ (S 20 4) ≤ 0 ∧ (¬ ((nI m) < 1 ∨ 40 < (nI m))) ∧ (-1) ≤ q) (x1 : ∀ S4 : Nat → Nat → Int32, FO (am_sub S 20) g n m S S4 → ¬ q = (-1) → ¬ q < 0 ∧ ¬ (S4 20 4) ≤ q → am_ix q 6 = true) (k1 : ∀ S4 : Nat → Nat → Int32, FO (am_sub S 20) g n m S S4 → ¬ q = (-1) → ¬ (¬ q < 0 ∧ ¬ (S4 20 4) ≤ q) → Q (some (.int (-1000000))) (am_hh X S4 L)) (k2 : ∀ S4 : Nat → Nat → Int32, FO (am_sub S 20) g n m S S4 → ¬ q = (-1) → ¬ q < 0 ∧ ¬ (S4 20 4) ≤ q → Q (some (.int (S4 279 (q).toNatClampNeg))) (am_hh X S4 L)) (k3 : ∀ S4 : Nat → Nat → Int32, FO (am_sub S 20) g n m S S4 → q = (-1) → Q (some (.int (S4 277 6))) (am_hh X S4 L)) : am_mt (d + 8) 88 [.ref 5, .int (nI m), .int q] (am_hh X S L) Q := by
  refine ax_in (ls := [some (.ref 5), some (.int (nI m)), some (.int q)]) rfl ?_
  refine ax_s (pc' := 1) (st' := [.ref 5]) rfl rfl rfl rfl ?_
  refine ax_get rfl (hh_5 _ _ _) rfl rfl rfl ?_
  show am_ex (d + 8) 88 4 [some (.ref 5), some (.int (nI m)), some (.int q)] [.ref 20] (am_hh X S L) _
  refine ax_call (vs := [.ref 20]) (rr := []) rfl rfl rfl ?_
  refine kw (am_hh_sub isW20 X S L) (am_hh_sub isW20 X S L).symm (fun _ => ct_stands (am_isW_k isW20 X S L)) ?_
  show am_ex (d + 8) 88 7 [some (.ref 5), some (.int (nI m)), some (.int q)] [.int (bI (decide (¬ (S 20 4) ≤ 0)))] (am_hh X S L) _
  refine ax_qT rfl (fun c1 => ?_) (fun c1 => ?_)
  · refine ax_s (pc' := 14) (st' := [.int (nI m)]) rfl rfl rfl rfl ?_
    refine ax_s (pc' := 15) (st' := [.int 1, .int (nI m)]) rfl rfl rfl rfl ?_
    refine ax_s (pc' := 17) (st' := [.int 40, .int 1, .int (nI m)]) rfl rfl rfl rfl ?_
    refine ax_call (vs := [.int (nI m), .int 1, .int 40]) (rr := []) rfl rfl rfl ?_
    refine ct_isOutside ?_
    show am_ex (d + 8) 88 20 [some (.ref 5), some (.int (nI m)), some (.int q)] [.int (bI (decide ((nI m) < 1 ∨ 40 < (nI m))))] (am_hh X S L) _
    refine ax_pT rfl (fun c2 => ?_) (fun c2 => ?_)
    · refine ax_s (pc' := 30) (st' := [.int (-1000001)]) rfl rfl rfl rfl ?_
      refine ax_r rfl rfl rfl ?_
      first | exact absurd (hg.2.1) c2 | exact absurd c2 (hg.2.1) | exact absurd (hg.2.1) (ne_true_of_eq_false c2)
    · refine ax_s (pc' := 24) (st' := [.int q]) rfl rfl rfl rfl ?_
      refine ax_s (pc' := 25) (st' := [.int (-1), .int q]) rfl rfl rfl rfl ?_
      refine ax_cmp_ge rfl (fun c3 => ?_) (fun c3 => ?_)
      · refine ax_s (pc' := 32) (st' := [.ref 5]) rfl rfl rfl rfl ?_
        refine ax_get rfl (hh_5 _ _ _) rfl rfl rfl ?_
        show am_ex (d + 8) 88 35 [some (.ref 5), some (.int (nI m)), some (.int q)] [.ref 277] (am_hh X S L) _
        refine ax_s (pc' := 36) (st' := [.int (nI m), .ref 277]) rfl rfl rfl rfl ?_
        refine ax_call (vs := [.ref 277, .int (nI m)]) (rr := []) rfl rfl rfl ?_
        refine hO _ (fun S4 o4 => ?_)
        show am_ex (d + 8) 88 39 [some (.ref 5), some (.int (nI m)), some (.int q)] [] (am_hh X S4 L) _
        refine ax_s (pc' := 40) (st' := [.int q]) rfl rfl rfl rfl ?_
        refine ax_s (pc' := 41) (st' := [.int (-1), .int q]) rfl rfl rfl rfl ?_
        refine ax_cmp_ne rfl (fun c5 => ?_) (fun c5 => ?_)
        · refine ax_s (pc' := 53) (st' := [.ref 5]) rfl rfl rfl rfl ?_
          refine ax_get rfl (hh_5 _ _ _) rfl rfl rfl ?_
          show am_ex (d + 8) 88 56 [some (.ref 5), some (.int (nI m)), some (.int q)] [.ref 20] (am_hh X S4 L) _
          refine ax_s (pc' := 57) (st' := [.int q, .ref 20]) rfl rfl rfl rfl ?_
          refine ax_call (vs := [.ref 20, .int q]) (rr := []) rfl rfl rfl ?_
          refine kw (am_hh_sub isW20 X S4 L) (am_hh_sub isW20 X S4 L).symm (fun _ => ct_hasParty (am_isW_k isW20 X S4 L)) ?_
          show am_ex (d + 8) 88 60 [some (.ref 5), some (.int (nI m)), some (.int q)] [.int (bI (decide (¬ q < 0 ∧ ¬ (S4 20 4) ≤ q)))] (am_hh X S4 L) _
          refine ax_pF rfl (fun c6 => ?_) (fun c6 => ?_)
          · refine ax_s (pc' := 78) (st' := [.int (-1000000)]) rfl rfl rfl rfl ?_
            refine ax_r rfl rfl rfl ?_
            exact k1 S4 o4 c5 c6
          · refine ax_s (pc' := 64) (st' := [.ref 5]) rfl rfl rfl rfl ?_
            refine ax_get rfl (hh_5 _ _ _) rfl rfl rfl ?_
            show am_ex (d + 8) 88 67 [some (.ref 5), some (.int (nI m)), some (.int q)] [.ref 277] (am_hh X S4 L) _
            refine ax_get rfl (hh_277 _ _ _) rfl rfl rfl ?_
            show am_ex (d + 8) 88 70 [some (.ref 5), some (.int (nI m)), some (.int q)] [.ref 279] (am_hh X S4 L) _
            refine ax_s (pc' := 71) (st' := [.int q, .ref 279]) rfl rfl rfl rfl ?_
            refine ax_ald' (v := (S4 279 (q).toNatClampNeg)) rfl (hh_279 _ _ _) rfl (x1 S4 o4 c5 c6) rfl ?_
            refine ax_s (pc' := 78) (st' := [.int (S4 279 (q).toNatClampNeg)]) rfl rfl rfl rfl ?_
            refine ax_r rfl rfl rfl ?_
            exact k2 S4 o4 c5 c6
        · refine ax_s (pc' := 45) (st' := [.ref 5]) rfl rfl rfl rfl ?_
          refine ax_get rfl (hh_5 _ _ _) rfl rfl rfl ?_
          show am_ex (d + 8) 88 48 [some (.ref 5), some (.int (nI m)), some (.int q)] [.ref 277] (am_hh X S4 L) _
          refine ax_get rfl (hh_277 _ _ _) rfl rfl rfl ?_
          show am_ex (d + 8) 88 51 [some (.ref 5), some (.int (nI m)), some (.int q)] [.int (S4 277 6)] (am_hh X S4 L) _
          refine ax_r rfl rfl rfl ?_
          exact k3 S4 o4 c5
      · refine ax_s (pc' := 30) (st' := [.int (-1000001)]) rfl rfl rfl rfl ?_
        refine ax_r rfl rfl rfl ?_
        first | exact absurd (hg.2.2) c3 | exact absurd c3 (hg.2.2) | exact absurd (hg.2.2) (ne_true_of_eq_false c3)
  · refine ax_s (pc' := 12) (st' := [.int (-1000002)]) rfl rfl rfl rfl ?_
    refine ax_r rfl rfl rfl ?_
    first | exact absurd (hg.1) c1 | exact absurd c1 (hg.1) | exact absurd (hg.1) (ne_true_of_eq_false c1)
theorem wl_mord {d : Nat} {X : Nat × (Nat → Int32)} {S : Nat → Nat → Int32} {L : Nat → Int64} {g n m : Nat} {r : Nat → Nat} {rk : Nat → Int32} {W : Nat → Nat → Int32} {q x y : Int32} {b : Bool} {y6 y7 : Option Value} {Q : Option Value → am_H → Prop} (hm : m < 1000) (h1 : 1 ≤ n) (h6 : n ≤ 6) (hR : mR W S 293 g n) (hF : mF S g n) (hrk : rkR rk S n) (ha : ∀ k, k < 6 → S 297 k = nI (r k)) (hr : ∀ k, k < 6 → r k < 6)  (x1 : b = false → ∀ S2 : Nat → Nat → Int32, JK S2 → (∀ a, a ≠ 297 → S2 a = S a) → 0 ≤ q → ¬ (S2 285 7) ≤ q → am_ix q 6 = true) (k1 : b = false → ∀ S2 : Nat → Nat → Int32, JK S2 → (∀ a, a ≠ 297 → S2 a = S a) → 0 ≤ q → (S2 285 7) ≤ q → Q (some (.int (-1000000))) (am_hh X S2 L)) (k2 : b = false → ∀ S2 : Nat → Nat → Int32, JK S2 → (∀ a, a ≠ 297 → S2 a = S a) → 0 ≤ q → ¬ (S2 285 7) ≤ q → Q (some (.int (S2 304 (q).toNatClampNeg))) (am_hh X S2 L)) (k3 : b = false → ∀ S2 : Nat → Nat → Int32, JK S2 → (∀ a, a ≠ 297 → S2 a = S a) → ¬ 0 ≤ q → Q (some (.int x)) (am_hh X S2 L)) (k4 : b = true → ∀ S5 : Nat → Nat → Int32, mR W S5 298 g n → F8 S S5 → ∀ S6 : Nat → Nat → Int32, mR (w_it rk g n m W) S6 298 g n → F8 S5 S6 → x < (w_bits (m_th S6 298 2 n 0 0)) → ∀ b8 : Bool, ∀ S8 : Nat → Nat → Int32, NR 297 r n (am_uc S6 304 (va_cpy (S6 297) (S6 304) 0 0 6)) S8 b8 → am_ex (d + 8) 200 40 [some (.ref 285), some (.int (nI m)), some (.int q), some (.int (w_bits (m_th S6 298 2 n 0 0))), some (.int (w_sum ((w_it rk g n m W) 7) n 0 0)), some (.int (bI b8)), some (.int (w_bits (m_th S6 298 2 n 0 0))), some (.int (w_sum ((w_it rk g n m W) 7) n 0 0))] [] (am_hh X S8 L) Q) (k5 : b = true → ∀ S5 : Nat → Nat → Int32, mR W S5 298 g n → F8 S S5 → ∀ S6 : Nat → Nat → Int32, mR (w_it rk g n m W) S6 298 g n → F8 S5 S6 → ¬ x < (w_bits (m_th S6 298 2 n 0 0)) → ¬ (w_bits (m_th S6 298 2 n 0 0)) = x → ∀ b10 : Bool, ∀ S10 : Nat → Nat → Int32, NR 297 r n S6 S10 b10 → am_ex (d + 8) 200 40 [some (.ref 285), some (.int (nI m)), some (.int q), some (.int x), some (.int y), some (.int (bI b10)), some (.int (w_bits (m_th S6 298 2 n 0 0))), some (.int (w_sum ((w_it rk g n m W) 7) n 0 0))] [] (am_hh X S10 L) Q) (k6 : b = true → ∀ S5 : Nat → Nat → Int32, mR W S5 298 g n → F8 S S5 → ∀ S6 : Nat → Nat → Int32, mR (w_it rk g n m W) S6 298 g n → F8 S5 S6 → ¬ x < (w_bits (m_th S6 298 2 n 0 0)) → (w_bits (m_th S6 298 2 n 0 0)) = x → (w_sum ((w_it rk g n m W) 7) n 0 0) ≤ y → ∀ b12 : Bool, ∀ S12 : Nat → Nat → Int32, NR 297 r n S6 S12 b12 → am_ex (d + 8) 200 40 [some (.ref 285), some (.int (nI m)), some (.int q), some (.int x), some (.int y), some (.int (bI b12)), some (.int (w_bits (m_th S6 298 2 n 0 0))), some (.int (w_sum ((w_it rk g n m W) 7) n 0 0))] [] (am_hh X S12 L) Q) (k7 : b = true → ∀ S5 : Nat → Nat → Int32, mR W S5 298 g n → F8 S S5 → ∀ S6 : Nat → Nat → Int32, mR (w_it rk g n m W) S6 298 g n → F8 S5 S6 → ¬ x < (w_bits (m_th S6 298 2 n 0 0)) → (w_bits (m_th S6 298 2 n 0 0)) = x → ¬ (w_sum ((w_it rk g n m W) 7) n 0 0) ≤ y → ∀ b13 : Bool, ∀ S13 : Nat → Nat → Int32, NR 297 r n (am_uc S6 304 (va_cpy (S6 297) (S6 304) 0 0 6)) S13 b13 → am_ex (d + 8) 200 40 [some (.ref 285), some (.int (nI m)), some (.int q), some (.int (w_bits (m_th S6 298 2 n 0 0))), some (.int (w_sum ((w_it rk g n m W) 7) n 0 0)), some (.int (bI b13)), some (.int (w_bits (m_th S6 298 2 n 0 0))), some (.int (w_sum ((w_it rk g n m W) 7) n 0 0))] [] (am_hh X S13 L) Q) : am_ex (d + 8) 200 40 [some (.ref 285), some (.int (nI m)), some (.int q), some (.int x), some (.int y), some (.int (bI b)), y6, y7] [] (am_hh X S L) Q := by
  refine ax_s (pc' := 42) (st' := [.int (bI b)]) rfl rfl rfl rfl ?_
  refine ax_bF rfl (fun c1 => ?_) (fun c1 => ?_)
  · refine ax_s (pc' := 130) (st' := [.ref 285]) rfl rfl rfl rfl ?_
    refine ax_call (vs := [.ref 285]) (rr := []) rfl rfl rfl ?_
    refine mt_byNumbers (fun S2 j2 f2 => ?_)
    show am_ex (d + 8) 200 133 [some (.ref 285), some (.int (nI m)), some (.int q), some (.int x), some (.int y), some (.int (bI b)), y6, y7] [] (am_hh X S2 L) _
    refine ax_s (pc' := 134) (st' := [.int q]) rfl rfl rfl rfl ?_
    refine ax_if_ge rfl (fun c3 => ?_) (fun c3 => ?_)
    · refine ax_s (pc' := 142) (st' := [.int q]) rfl rfl rfl rfl ?_
      refine ax_s (pc' := 143) (st' := [.ref 285, .int q]) rfl rfl rfl rfl ?_
      refine ax_get rfl (hh_285 _ _ _) rfl rfl rfl ?_
      show am_ex (d + 8) 200 146 [some (.ref 285), some (.int (nI m)), some (.int q), some (.int x), some (.int y), some (.int (bI b)), y6, y7] [.int (S2 285 7), .int q] (am_hh X S2 L) _
      refine ax_cmp_ge rfl (fun c4 => ?_) (fun c4 => ?_)
      · refine ax_s (pc' := 160) (st' := [.int (-1000000)]) rfl rfl rfl rfl ?_
        refine ax_r rfl rfl rfl ?_
        exact k1 c1 S2 j2 f2 c3 c4
      · refine ax_s (pc' := 150) (st' := [.ref 285]) rfl rfl rfl rfl ?_
        refine ax_get rfl (hh_285 _ _ _) rfl rfl rfl ?_
        show am_ex (d + 8) 200 153 [some (.ref 285), some (.int (nI m)), some (.int q), some (.int x), some (.int y), some (.int (bI b)), y6, y7] [.ref 304] (am_hh X S2 L) _
        refine ax_s (pc' := 154) (st' := [.int q, .ref 304]) rfl rfl rfl rfl ?_
        refine ax_ald' (v := (S2 304 (q).toNatClampNeg)) rfl (hh_304 _ _ _) rfl (x1 c1 S2 j2 f2 c3 c4) rfl ?_
        refine ax_s (pc' := 160) (st' := [.int (S2 304 (q).toNatClampNeg)]) rfl rfl rfl rfl ?_
        refine ax_r rfl rfl rfl ?_
        exact k2 c1 S2 j2 f2 c3 c4
    · refine ax_s (pc' := 138) (st' := [.int x]) rfl rfl rfl rfl ?_
      refine ax_s (pc' := 160) (st' := [.int x]) rfl rfl rfl rfl ?_
      refine ax_r rfl rfl rfl ?_
      exact k3 c1 S2 j2 f2 c3
  · refine ax_s (pc' := 46) (st' := [.ref 285]) rfl rfl rfl rfl ?_
    refine ax_call (vs := [.ref 285]) (rr := []) rfl rfl rfl ?_
    refine mt_asItIs' hR (fun S5 hm5 hf5 => ?_)
    show am_ex (d + 8) 200 49 [some (.ref 285), some (.int (nI m)), some (.int q), some (.int x), some (.int y), some (.int (bI b)), y6, y7] [] (am_hh X S5 L) _
    refine ax_s (pc' := 50) (st' := [.ref 285]) rfl rfl rfl rfl ?_
    refine ax_s (pc' := 51) (st' := [.int (nI m), .ref 285]) rfl rfl rfl rfl ?_
    refine ax_call (vs := [.ref 285, .int (nI m)]) (rr := []) rfl rfl rfl ?_
    refine mt_goes_r (rk := rk) (K := m) rfl (by omega) (fun j hj => ?_) ?_ hm5 (fun S6 hm6 hf6 => ?_)
    · rw [hf5 297 (by omega)]; exact hF.2.2 j hj
    · exact rkR_8 hf5 hrk
    show am_ex (d + 8) 200 54 [some (.ref 285), some (.int (nI m)), some (.int q), some (.int x), some (.int y), some (.int (bI b)), y6, y7] [.int (w_sn rk g n m W 0)] (am_hh X S6 L) _
    refine ax_s (pc' := 55) (st' := []) rfl rfl rfl rfl ?_
    refine ax_s (pc' := 56) (st' := [.ref 285]) rfl rfl rfl rfl ?_
    refine ax_s (pc' := 57) (st' := [.ref 285, .ref 285]) rfl rfl rfl rfl ?_
    refine ax_get rfl (hh_285 _ _ _) rfl rfl rfl ?_
    show am_ex (d + 8) 200 60 [some (.ref 285), some (.int (nI m)), some (.int q), some (.int x), some (.int y), some (.int (bI b)), y6, y7] [.ref 298, .ref 285] (am_hh X S6 L) _
    refine ax_s (pc' := 61) (st' := [.int 2, .ref 298, .ref 285]) rfl rfl rfl rfl ?_
    refine ax_call (vs := [.ref 285, .ref 298, .int 2]) (rr := []) rfl rfl rfl ?_
    refine mt_those (F8_F (F8_t hf5 hf6) hF).1.1 (F8_F (F8_t hf5 hf6) hF).1.2 (Or.inr rfl) ?_
    show am_ex (d + 8) 200 64 [some (.ref 285), some (.int (nI m)), some (.int q), some (.int x), some (.int y), some (.int (bI b)), y6, y7] [.int (m_th S6 298 2 n 0 0)] (am_hh X S6 L) _
    refine ax_call (vs := [.int (m_th S6 298 2 n 0 0)]) (rr := []) rfl rfl rfl ?_
    refine mt_bits ?_
    show am_ex (d + 8) 200 67 [some (.ref 285), some (.int (nI m)), some (.int q), some (.int x), some (.int y), some (.int (bI b)), y6, y7] [.int (w_bits (m_th S6 298 2 n 0 0))] (am_hh X S6 L) _
    refine ax_s (pc' := 69) (ls' := [some (.ref 285), some (.int (nI m)), some (.int q), some (.int x), some (.int y), some (.int (bI b)), some (.int (w_bits (m_th S6 298 2 n 0 0))), y7]) (st' := []) rfl rfl rfl rfl ?_
    refine ax_s (pc' := 70) (st' := [.ref 285]) rfl rfl rfl rfl ?_
    refine ax_s (pc' := 71) (st' := [.ref 285, .ref 285]) rfl rfl rfl rfl ?_
    refine ax_get rfl (hh_285 _ _ _) rfl rfl rfl ?_
    show am_ex (d + 8) 200 74 [some (.ref 285), some (.int (nI m)), some (.int q), some (.int x), some (.int y), some (.int (bI b)), some (.int (w_bits (m_th S6 298 2 n 0 0))), y7] [.ref 298, .ref 285] (am_hh X S6 L) _
    refine ax_call (vs := [.ref 285, .ref 298]) (rr := []) rfl rfl rfl ?_
    refine mt_riddenOf (Or.inr rfl) hm6 ?_
    show am_ex (d + 8) 200 77 [some (.ref 285), some (.int (nI m)), some (.int q), some (.int x), some (.int y), some (.int (bI b)), some (.int (w_bits (m_th S6 298 2 n 0 0))), y7] [.int (w_sum ((w_it rk g n m W) 7) n 0 0)] (am_hh X S6 L) _
    refine ax_s (pc' := 79) (ls' := [some (.ref 285), some (.int (nI m)), some (.int q), some (.int x), some (.int y), some (.int (bI b)), some (.int (w_bits (m_th S6 298 2 n 0 0))), some (.int (w_sum ((w_it rk g n m W) 7) n 0 0))]) (st' := []) rfl rfl rfl rfl ?_
    refine ax_s (pc' := 81) (st' := [.int (w_bits (m_th S6 298 2 n 0 0))]) rfl rfl rfl rfl ?_
    refine ax_s (pc' := 82) (st' := [.int x, .int (w_bits (m_th S6 298 2 n 0 0))]) rfl rfl rfl rfl ?_
    refine ax_cmp_gt rfl (fun c7 => ?_) (fun c7 => ?_)
    · refine ax_s (pc' := 100) (st' := [.int (w_bits (m_th S6 298 2 n 0 0))]) rfl rfl rfl rfl ?_
      refine ax_s (pc' := 101) (ls' := [some (.ref 285), some (.int (nI m)), some (.int q), some (.int (w_bits (m_th S6 298 2 n 0 0))), some (.int y), some (.int (bI b)), some (.int (w_bits (m_th S6 298 2 n 0 0))), some (.int (w_sum ((w_it rk g n m W) 7) n 0 0))]) (st' := []) rfl rfl rfl rfl ?_
      refine ax_s (pc' := 103) (st' := [.int (w_sum ((w_it rk g n m W) 7) n 0 0)]) rfl rfl rfl rfl ?_
      refine ax_s (pc' := 105) (ls' := [some (.ref 285), some (.int (nI m)), some (.int q), some (.int (w_bits (m_th S6 298 2 n 0 0))), some (.int (w_sum ((w_it rk g n m W) 7) n 0 0)), some (.int (bI b)), some (.int (w_bits (m_th S6 298 2 n 0 0))), some (.int (w_sum ((w_it rk g n m W) 7) n 0 0))]) (st' := []) rfl rfl rfl rfl ?_
      refine ax_s (pc' := 106) (st' := [.ref 285]) rfl rfl rfl rfl ?_
      refine ax_get rfl (hh_285 _ _ _) rfl rfl rfl ?_
      show am_ex (d + 8) 200 109 [some (.ref 285), some (.int (nI m)), some (.int q), some (.int (w_bits (m_th S6 298 2 n 0 0))), some (.int (w_sum ((w_it rk g n m W) 7) n 0 0)), some (.int (bI b)), some (.int (w_bits (m_th S6 298 2 n 0 0))), some (.int (w_sum ((w_it rk g n m W) 7) n 0 0))] [.ref 297] (am_hh X S6 L) _
      refine ax_s (pc' := 110) (st' := [.int 0, .ref 297]) rfl rfl rfl rfl ?_
      refine ax_s (pc' := 111) (st' := [.ref 285, .int 0, .ref 297]) rfl rfl rfl rfl ?_
      refine ax_get rfl (hh_285 _ _ _) rfl rfl rfl ?_
      show am_ex (d + 8) 200 114 [some (.ref 285), some (.int (nI m)), some (.int q), some (.int (w_bits (m_th S6 298 2 n 0 0))), some (.int (w_sum ((w_it rk g n m W) 7) n 0 0)), some (.int (bI b)), some (.int (w_bits (m_th S6 298 2 n 0 0))), some (.int (w_sum ((w_it rk g n m W) 7) n 0 0))] [.ref 304, .int 0, .ref 297] (am_hh X S6 L) _
      refine ax_s (pc' := 115) (st' := [.int 0, .ref 304, .int 0, .ref 297]) rfl rfl rfl rfl ?_
      refine ax_s (pc' := 117) (st' := [.int 6, .int 0, .ref 304, .int 0, .ref 297]) rfl rfl rfl rfl ?_
      refine ax_call (vs := [.ref 297, .int 0, .ref 304, .int 0, .int 6]) (rr := []) rfl rfl rfl ?_
      refine mt_bring 297 304 6 6 0 0 6 (fun _ => rfl) (fun _ => rfl) (by decide) (by decide) (by decide) (by decide) (Or.inl (by decide)) rfl rfl rfl (by decide) (by decide) ?_
      show am_ex (d + 8) 200 120 [some (.ref 285), some (.int (nI m)), some (.int q), some (.int (w_bits (m_th S6 298 2 n 0 0))), some (.int (w_sum ((w_it rk g n m W) 7) n 0 0)), some (.int (bI b)), some (.int (w_bits (m_th S6 298 2 n 0 0))), some (.int (w_sum ((w_it rk g n m W) 7) n 0 0))] [] (am_hh X (am_uc S6 304 (va_cpy (S6 297) (S6 304) 0 0 6)) L) _
      refine ax_s (pc' := 121) (st' := [.ref 285]) rfl rfl rfl rfl ?_
      refine ax_call (vs := [.ref 285]) (rr := []) rfl rfl rfl ?_
      refine mt_nextOrder (r := r) (show (am_uc S6 304 (va_cpy (S6 297) (S6 304) 0 0 6)) 285 7 = nI n from ?_) h1 h6 (show ∀ k, k < 6 → (am_uc S6 304 (va_cpy (S6 297) (S6 304) 0 0 6)) 297 k = nI (r k) from ?_) hr (fun b8 S8 n8 => ?_)
      · rw [am_uc_ne _ (by omega)]; rw [(F8_t hf5 hf6) 285 (by omega)]; exact hF.1.1
      · rw [am_uc_ne _ (by omega)]; rw [(F8_t hf5 hf6) 297 (by omega)]; exact ha
      show am_ex (d + 8) 200 124 [some (.ref 285), some (.int (nI m)), some (.int q), some (.int (w_bits (m_th S6 298 2 n 0 0))), some (.int (w_sum ((w_it rk g n m W) 7) n 0 0)), some (.int (bI b)), some (.int (w_bits (m_th S6 298 2 n 0 0))), some (.int (w_sum ((w_it rk g n m W) 7) n 0 0))] [.int (bI b8)] (am_hh X S8 L) _
      refine ax_s (pc' := 126) (ls' := [some (.ref 285), some (.int (nI m)), some (.int q), some (.int (w_bits (m_th S6 298 2 n 0 0))), some (.int (w_sum ((w_it rk g n m W) 7) n 0 0)), some (.int (bI b8)), some (.int (w_bits (m_th S6 298 2 n 0 0))), some (.int (w_sum ((w_it rk g n m W) 7) n 0 0))]) (st' := []) rfl rfl rfl rfl ?_
      refine ax_s (pc' := 40) (st' := []) rfl rfl rfl rfl ?_
      exact k4 c1 S5 hm5 hf5 S6 hm6 hf6 c7 b8 S8 n8
    · refine ax_s (pc' := 87) (st' := [.int (w_bits (m_th S6 298 2 n 0 0))]) rfl rfl rfl rfl ?_
      refine ax_s (pc' := 88) (st' := [.int x, .int (w_bits (m_th S6 298 2 n 0 0))]) rfl rfl rfl rfl ?_
      refine ax_cmp_ne rfl (fun c9 => ?_) (fun c9 => ?_)
      · refine ax_s (pc' := 121) (st' := [.ref 285]) rfl rfl rfl rfl ?_
        refine ax_call (vs := [.ref 285]) (rr := []) rfl rfl rfl ?_
        refine mt_nextOrder (r := r) (show S6 285 7 = nI n from ?_) h1 h6 (show ∀ k, k < 6 → S6 297 k = nI (r k) from ?_) hr (fun b10 S10 n10 => ?_)
        · rw [(F8_t hf5 hf6) 285 (by omega)]; exact hF.1.1
        · rw [(F8_t hf5 hf6) 297 (by omega)]; exact ha
        show am_ex (d + 8) 200 124 [some (.ref 285), some (.int (nI m)), some (.int q), some (.int x), some (.int y), some (.int (bI b)), some (.int (w_bits (m_th S6 298 2 n 0 0))), some (.int (w_sum ((w_it rk g n m W) 7) n 0 0))] [.int (bI b10)] (am_hh X S10 L) _
        refine ax_s (pc' := 126) (ls' := [some (.ref 285), some (.int (nI m)), some (.int q), some (.int x), some (.int y), some (.int (bI b10)), some (.int (w_bits (m_th S6 298 2 n 0 0))), some (.int (w_sum ((w_it rk g n m W) 7) n 0 0))]) (st' := []) rfl rfl rfl rfl ?_
        refine ax_s (pc' := 40) (st' := []) rfl rfl rfl rfl ?_
        exact k5 c1 S5 hm5 hf5 S6 hm6 hf6 c7 c9 b10 S10 n10
      · refine ax_s (pc' := 93) (st' := [.int (w_sum ((w_it rk g n m W) 7) n 0 0)]) rfl rfl rfl rfl ?_
        refine ax_s (pc' := 95) (st' := [.int y, .int (w_sum ((w_it rk g n m W) 7) n 0 0)]) rfl rfl rfl rfl ?_
        refine ax_cmp_le rfl (fun c11 => ?_) (fun c11 => ?_)
        · refine ax_s (pc' := 121) (st' := [.ref 285]) rfl rfl rfl rfl ?_
          refine ax_call (vs := [.ref 285]) (rr := []) rfl rfl rfl ?_
          refine mt_nextOrder (r := r) (show S6 285 7 = nI n from ?_) h1 h6 (show ∀ k, k < 6 → S6 297 k = nI (r k) from ?_) hr (fun b12 S12 n12 => ?_)
          · rw [(F8_t hf5 hf6) 285 (by omega)]; exact hF.1.1
          · rw [(F8_t hf5 hf6) 297 (by omega)]; exact ha
          show am_ex (d + 8) 200 124 [some (.ref 285), some (.int (nI m)), some (.int q), some (.int x), some (.int y), some (.int (bI b)), some (.int (w_bits (m_th S6 298 2 n 0 0))), some (.int (w_sum ((w_it rk g n m W) 7) n 0 0))] [.int (bI b12)] (am_hh X S12 L) _
          refine ax_s (pc' := 126) (ls' := [some (.ref 285), some (.int (nI m)), some (.int q), some (.int x), some (.int y), some (.int (bI b12)), some (.int (w_bits (m_th S6 298 2 n 0 0))), some (.int (w_sum ((w_it rk g n m W) 7) n 0 0))]) (st' := []) rfl rfl rfl rfl ?_
          refine ax_s (pc' := 40) (st' := []) rfl rfl rfl rfl ?_
          exact k6 c1 S5 hm5 hf5 S6 hm6 hf6 c7 c9 c11 b12 S12 n12
        · refine ax_s (pc' := 100) (st' := [.int (w_bits (m_th S6 298 2 n 0 0))]) rfl rfl rfl rfl ?_
          refine ax_s (pc' := 101) (ls' := [some (.ref 285), some (.int (nI m)), some (.int q), some (.int (w_bits (m_th S6 298 2 n 0 0))), some (.int y), some (.int (bI b)), some (.int (w_bits (m_th S6 298 2 n 0 0))), some (.int (w_sum ((w_it rk g n m W) 7) n 0 0))]) (st' := []) rfl rfl rfl rfl ?_
          refine ax_s (pc' := 103) (st' := [.int (w_sum ((w_it rk g n m W) 7) n 0 0)]) rfl rfl rfl rfl ?_
          refine ax_s (pc' := 105) (ls' := [some (.ref 285), some (.int (nI m)), some (.int q), some (.int (w_bits (m_th S6 298 2 n 0 0))), some (.int (w_sum ((w_it rk g n m W) 7) n 0 0)), some (.int (bI b)), some (.int (w_bits (m_th S6 298 2 n 0 0))), some (.int (w_sum ((w_it rk g n m W) 7) n 0 0))]) (st' := []) rfl rfl rfl rfl ?_
          refine ax_s (pc' := 106) (st' := [.ref 285]) rfl rfl rfl rfl ?_
          refine ax_get rfl (hh_285 _ _ _) rfl rfl rfl ?_
          show am_ex (d + 8) 200 109 [some (.ref 285), some (.int (nI m)), some (.int q), some (.int (w_bits (m_th S6 298 2 n 0 0))), some (.int (w_sum ((w_it rk g n m W) 7) n 0 0)), some (.int (bI b)), some (.int (w_bits (m_th S6 298 2 n 0 0))), some (.int (w_sum ((w_it rk g n m W) 7) n 0 0))] [.ref 297] (am_hh X S6 L) _
          refine ax_s (pc' := 110) (st' := [.int 0, .ref 297]) rfl rfl rfl rfl ?_
          refine ax_s (pc' := 111) (st' := [.ref 285, .int 0, .ref 297]) rfl rfl rfl rfl ?_
          refine ax_get rfl (hh_285 _ _ _) rfl rfl rfl ?_
          show am_ex (d + 8) 200 114 [some (.ref 285), some (.int (nI m)), some (.int q), some (.int (w_bits (m_th S6 298 2 n 0 0))), some (.int (w_sum ((w_it rk g n m W) 7) n 0 0)), some (.int (bI b)), some (.int (w_bits (m_th S6 298 2 n 0 0))), some (.int (w_sum ((w_it rk g n m W) 7) n 0 0))] [.ref 304, .int 0, .ref 297] (am_hh X S6 L) _
          refine ax_s (pc' := 115) (st' := [.int 0, .ref 304, .int 0, .ref 297]) rfl rfl rfl rfl ?_
          refine ax_s (pc' := 117) (st' := [.int 6, .int 0, .ref 304, .int 0, .ref 297]) rfl rfl rfl rfl ?_
          refine ax_call (vs := [.ref 297, .int 0, .ref 304, .int 0, .int 6]) (rr := []) rfl rfl rfl ?_
          refine mt_bring 297 304 6 6 0 0 6 (fun _ => rfl) (fun _ => rfl) (by decide) (by decide) (by decide) (by decide) (Or.inl (by decide)) rfl rfl rfl (by decide) (by decide) ?_
          show am_ex (d + 8) 200 120 [some (.ref 285), some (.int (nI m)), some (.int q), some (.int (w_bits (m_th S6 298 2 n 0 0))), some (.int (w_sum ((w_it rk g n m W) 7) n 0 0)), some (.int (bI b)), some (.int (w_bits (m_th S6 298 2 n 0 0))), some (.int (w_sum ((w_it rk g n m W) 7) n 0 0))] [] (am_hh X (am_uc S6 304 (va_cpy (S6 297) (S6 304) 0 0 6)) L) _
          refine ax_s (pc' := 121) (st' := [.ref 285]) rfl rfl rfl rfl ?_
          refine ax_call (vs := [.ref 285]) (rr := []) rfl rfl rfl ?_
          refine mt_nextOrder (r := r) (show (am_uc S6 304 (va_cpy (S6 297) (S6 304) 0 0 6)) 285 7 = nI n from ?_) h1 h6 (show ∀ k, k < 6 → (am_uc S6 304 (va_cpy (S6 297) (S6 304) 0 0 6)) 297 k = nI (r k) from ?_) hr (fun b13 S13 n13 => ?_)
          · rw [am_uc_ne _ (by omega)]; rw [(F8_t hf5 hf6) 285 (by omega)]; exact hF.1.1
          · rw [am_uc_ne _ (by omega)]; rw [(F8_t hf5 hf6) 297 (by omega)]; exact ha
          show am_ex (d + 8) 200 124 [some (.ref 285), some (.int (nI m)), some (.int q), some (.int (w_bits (m_th S6 298 2 n 0 0))), some (.int (w_sum ((w_it rk g n m W) 7) n 0 0)), some (.int (bI b)), some (.int (w_bits (m_th S6 298 2 n 0 0))), some (.int (w_sum ((w_it rk g n m W) 7) n 0 0))] [.int (bI b13)] (am_hh X S13 L) _
          refine ax_s (pc' := 126) (ls' := [some (.ref 285), some (.int (nI m)), some (.int q), some (.int (w_bits (m_th S6 298 2 n 0 0))), some (.int (w_sum ((w_it rk g n m W) 7) n 0 0)), some (.int (bI b13)), some (.int (w_bits (m_th S6 298 2 n 0 0))), some (.int (w_sum ((w_it rk g n m W) 7) n 0 0))]) (st' := []) rfl rfl rfl rfl ?_
          refine ax_s (pc' := 40) (st' := []) rfl rfl rfl rfl ?_
          exact k7 c1 S5 hm5 hf5 S6 hm6 hf6 c7 c9 c11 b13 S13 n13
theorem wv_m_order {d : Nat} {X : Nat × (Nat → Int32)} {S : Nat → Nat → Int32} {L : Nat → Int64} {m : Nat} {q : Int32} {Q : Option Value → am_H → Prop}  (hg : ¬ ((S 285 8) = 0) ∧ (¬ (nI m) < 1 ∧ ¬ 40 < (nI m)) ∧ (-1) ≤ q) (k1 : ∀ S4 : Nat → Nat → Int32, JK S4 → (∀ a, a ≠ 297 → S4 a = S a) → am_ex (d + 8) 200 40 [some (.ref 285), some (.int (nI m)), some (.int q), some (.int (-1)), some (.int (-1)), some (.int 1), none, none] [] (am_hh X S4 L) Q) : am_mt (d + 8) 200 [.ref 285, .int (nI m), .int q] (am_hh X S L) Q := by
  refine ax_in (ls := [some (.ref 285), some (.int (nI m)), some (.int q), none, none, none, none, none]) rfl ?_
  refine ax_s (pc' := 1) (st' := [.ref 285]) rfl rfl rfl rfl ?_
  refine ax_call (vs := [.ref 285]) (rr := []) rfl rfl rfl ?_
  refine mt_isNone  ?_
  show am_ex (d + 8) 200 4 [some (.ref 285), some (.int (nI m)), some (.int q), none, none, none, none, none] [.int (bI (decide ((S 285 8) = 0)))] (am_hh X S L) _
  refine ax_pF rfl (fun c1 => ?_) (fun c1 => ?_)
  · refine ax_s (pc' := 11) (st' := [.int (nI m)]) rfl rfl rfl rfl ?_
    refine ax_s (pc' := 12) (st' := [.int 1, .int (nI m)]) rfl rfl rfl rfl ?_
    refine ax_s (pc' := 14) (st' := [.int 40, .int 1, .int (nI m)]) rfl rfl rfl rfl ?_
    refine ax_call (vs := [.int (nI m), .int 1, .int 40]) (rr := []) rfl rfl rfl ?_
    refine mt_in ?_
    show am_ex (d + 8) 200 17 [some (.ref 285), some (.int (nI m)), some (.int q), none, none, none, none, none] [.int (bI (decide (¬ (nI m) < 1 ∧ ¬ 40 < (nI m))))] (am_hh X S L) _
    refine ax_pF rfl (fun c2 => ?_) (fun c2 => ?_)
    · refine ax_s (pc' := 27) (st' := [.int (-1000001)]) rfl rfl rfl rfl ?_
      refine ax_r rfl rfl rfl ?_
      first | exact absurd (hg.2.1) c2 | exact absurd c2 (hg.2.1) | exact absurd (hg.2.1) (ne_true_of_eq_false c2)
    · refine ax_s (pc' := 21) (st' := [.int q]) rfl rfl rfl rfl ?_
      refine ax_s (pc' := 22) (st' := [.int (-1), .int q]) rfl rfl rfl rfl ?_
      refine ax_cmp_ge rfl (fun c3 => ?_) (fun c3 => ?_)
      · refine ax_s (pc' := 29) (st' := [.int (-1)]) rfl rfl rfl rfl ?_
        refine ax_s (pc' := 30) (ls' := [some (.ref 285), some (.int (nI m)), some (.int q), some (.int (-1)), none, none, none, none]) (st' := []) rfl rfl rfl rfl ?_
        refine ax_s (pc' := 31) (st' := [.int (-1)]) rfl rfl rfl rfl ?_
        refine ax_s (pc' := 33) (ls' := [some (.ref 285), some (.int (nI m)), some (.int q), some (.int (-1)), some (.int (-1)), none, none, none]) (st' := []) rfl rfl rfl rfl ?_
        refine ax_s (pc' := 34) (st' := [.int 1]) rfl rfl rfl rfl ?_
        refine ax_s (pc' := 36) (ls' := [some (.ref 285), some (.int (nI m)), some (.int q), some (.int (-1)), some (.int (-1)), some (.int 1), none, none]) (st' := []) rfl rfl rfl rfl ?_
        refine ax_s (pc' := 37) (st' := [.ref 285]) rfl rfl rfl rfl ?_
        refine ax_call (vs := [.ref 285]) (rr := []) rfl rfl rfl ?_
        refine mt_byNumbers (fun S4 j4 f4 => ?_)
        show am_ex (d + 8) 200 40 [some (.ref 285), some (.int (nI m)), some (.int q), some (.int (-1)), some (.int (-1)), some (.int 1), none, none] [] (am_hh X S4 L) _
        exact k1 S4 j4 f4
      · refine ax_s (pc' := 27) (st' := [.int (-1000001)]) rfl rfl rfl rfl ?_
        refine ax_r rfl rfl rfl ?_
        first | exact absurd (hg.2.2) c3 | exact absurd c3 (hg.2.2) | exact absurd (hg.2.2) (ne_true_of_eq_false c3)
  · refine ax_s (pc' := 9) (st' := [.int (-1000002)]) rfl rfl rfl rfl ?_
    refine ax_r rfl rfl rfl ?_
    first | exact absurd (hg.1) c1 | exact absurd c1 (hg.1) | exact absurd (hg.1) (ne_true_of_eq_false c1)
