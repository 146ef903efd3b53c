def g_k_who (S : Nat → Nat → Int32) (p q r s t : Int32) : Prop := (¬ p < 0 ∧ ¬ (S 20 4) ≤ p) ∧ (¬ (q < 0 ∨ 4 < q)) ∧ (¬ r < 0 ∧ ¬ 8 ≤ r) ∧ (¬ (t < 1 ∨ 12 < t)) ∧ ¬ ((S 17 r.toNatClampNeg) = -1) ∧ (¬ s < 0 ∧ ¬ t < 0 ∧ ¬ (S 17 r.toNatClampNeg) < s ∧ ¬ (S 17 r.toNatClampNeg) - s < t)
def eg_k_who (S : Nat → Nat → Int32) (p q r s t : Int32) : Int32 × (Nat → Nat → Int32) := (if ¬ p < 0 ∧ ¬ (S 20 4) ≤ p then (if q < 0 ∨ 4 < q then ((-1000001), S) else (if ¬ r < 0 ∧ ¬ 8 ≤ r then (if t < 1 ∨ 12 < t then ((-1000001), S) else (if (S 17 r.toNatClampNeg) = -1 then ((-1000011), (am_u S 5 12 1)) else (if ¬ s < 0 ∧ ¬ t < 0 ∧ ¬ (S 17 r.toNatClampNeg) < s ∧ ¬ (S 17 r.toNatClampNeg) - s < t then (0, S) else ((-1000012), (am_u S 5 12 2))))) else ((-1000001), S))) else ((-1000001), S))
theorem wg_k_who {d : Nat} {X : Nat × (Nat → Int32)} {S : Nat → Nat → Int32} {L : Nat → Int64} {p q r s t : Int32} {Q : Option Value → am_H → Prop}  (x1 : ¬ p < 0 ∧ ¬ (S 20 4) ≤ p → ¬ (q < 0 ∨ 4 < q) → ¬ r < 0 ∧ ¬ 8 ≤ r → ¬ (t < 1 ∨ 12 < t) → am_ix r 8 = true) (hb : ¬ g_k_who S p q r s t) (hQ : Q (some (.int (eg_k_who S p q r s t).1)) (am_hh X (eg_k_who S p q r s t).2 L)) : am_mt (d + 9) 114 [.ref 5, .int p, .int q, .int r, .int s, .int t] (am_hh X S L) Q := by
  refine ax_in (ls := [some (.ref 5), some (.int p), some (.int q), some (.int r), some (.int s), some (.int t)]) rfl ?_
  refine ax_s (pc' := 1) (st' := [.ref 5]) rfl rfl rfl rfl ?_
  refine ax_get rfl (hh_5 _ _ _) rfl rfl rfl ?_
  show am_ex (d + 9) 114 4 [some (.ref 5), some (.int p), some (.int q), some (.int r), some (.int s), some (.int t)] [.ref 20] (am_hh X S L) _
  refine ax_s (pc' := 5) (st' := [.int p, .ref 20]) rfl rfl rfl rfl ?_
  refine ax_call (vs := [.ref 20, .int p]) (rr := []) rfl rfl rfl ?_
  refine kw (am_hh_sub isW20 X S L) (am_hh_sub isW20 X S L).symm (fun _ => ct_hasParty (am_isW_k isW20 X S L)) ?_
  show am_ex (d + 9) 114 8 [some (.ref 5), some (.int p), some (.int q), some (.int r), some (.int s), some (.int t)] [.int (bI (decide (¬ p < 0 ∧ ¬ (S 20 4) ≤ p)))] (am_hh X S L) _
  refine ax_pF rfl (fun c1 => ?_) (fun c1 => ?_)
  · refine ax_s (pc' := 40) (st' := [.int (-1000001)]) rfl rfl rfl rfl ?_
    refine ax_r rfl rfl rfl ?_
    unfold eg_k_who at hQ
    rw [if_neg c1] at hQ
    exact hQ
  · refine ax_s (pc' := 12) (st' := [.int q]) rfl rfl rfl rfl ?_
    refine ax_s (pc' := 13) (st' := [.int 0, .int q]) rfl rfl rfl rfl ?_
    refine ax_s (pc' := 14) (st' := [.int 4, .int 0, .int q]) rfl rfl rfl rfl ?_
    refine ax_call (vs := [.int q, .int 0, .int 4]) (rr := []) rfl rfl rfl ?_
    refine ct_isOutside ?_
    show am_ex (d + 9) 114 17 [some (.ref 5), some (.int p), some (.int q), some (.int r), some (.int s), some (.int t)] [.int (bI (decide (q < 0 ∨ 4 < q)))] (am_hh X S L) _
    refine ax_pT rfl (fun c2 => ?_) (fun c2 => ?_)
    · refine ax_s (pc' := 40) (st' := [.int (-1000001)]) rfl rfl rfl rfl ?_
      refine ax_r rfl rfl rfl ?_
      unfold eg_k_who at hQ
      rw [if_pos c1, if_pos c2] at hQ
      exact hQ
    · refine ax_s (pc' := 21) (st' := [.int r]) rfl rfl rfl rfl ?_
      refine ax_call (vs := [.int r]) (rr := []) rfl rfl rfl ?_
      refine ct_isRow ?_
      show am_ex (d + 9) 114 24 [some (.ref 5), some (.int p), some (.int q), some (.int r), some (.int s), some (.int t)] [.int (bI (decide (¬ r < 0 ∧ ¬ 8 ≤ r)))] (am_hh X S L) _
      refine ax_pF rfl (fun c3 => ?_) (fun c3 => ?_)
      · refine ax_s (pc' := 40) (st' := [.int (-1000001)]) rfl rfl rfl rfl ?_
        refine ax_r rfl rfl rfl ?_
        unfold eg_k_who at hQ
        rw [if_pos c1, if_neg c2, if_neg c3] at hQ
        exact hQ
      · refine ax_s (pc' := 29) (st' := [.int t]) rfl rfl rfl rfl ?_
        refine ax_s (pc' := 30) (st' := [.int 1, .int t]) rfl rfl rfl rfl ?_
        refine ax_s (pc' := 32) (st' := [.int 12, .int 1, .int t]) rfl rfl rfl rfl ?_
        refine ax_call (vs := [.int t, .int 1, .int 12]) (rr := []) rfl rfl rfl ?_
        refine ct_isOutside ?_
        show am_ex (d + 9) 114 35 [some (.ref 5), some (.int p), some (.int q), some (.int r), some (.int s), some (.int t)] [.int (bI (decide (t < 1 ∨ 12 < t)))] (am_hh X S L) _
        refine ax_pF rfl (fun c4 => ?_) (fun c4 => ?_)
        · refine ax_s (pc' := 42) (st' := [.ref 5]) rfl rfl rfl rfl ?_
          refine ax_get rfl (hh_5 _ _ _) rfl rfl rfl ?_
          show am_ex (d + 9) 114 45 [some (.ref 5), some (.int p), some (.int q), some (.int r), some (.int s), some (.int t)] [.ref 6] (am_hh X S L) _
          refine ax_s (pc' := 46) (st' := [.int r, .ref 6]) rfl rfl rfl rfl ?_
          refine ax_call (vs := [.ref 6, .int r]) (rr := []) rfl rfl rfl ?_
          refine kt_isMissing (am_ix_nI (x1 c1 c2 c3 c4)) (am_ix_lt (x1 c1 c2 c3 c4)) ?_
          show am_ex (d + 9) 114 49 [some (.ref 5), some (.int p), some (.int q), some (.int r), some (.int s), some (.int t)] [.int (bI (decide ((S 17 r.toNatClampNeg) = -1)))] (am_hh X S L) _
          refine ax_pF rfl (fun c5 => ?_) (fun c5 => ?_)
          · refine ax_s (pc' := 59) (st' := [.ref 5]) rfl rfl rfl rfl ?_
            refine ax_get rfl (hh_5 _ _ _) rfl rfl rfl ?_
            show am_ex (d + 9) 114 62 [some (.ref 5), some (.int p), some (.int q), some (.int r), some (.int s), some (.int t)] [.ref 6] (am_hh X S L) _
            refine ax_s (pc' := 63) (st' := [.int r, .ref 6]) rfl rfl rfl rfl ?_
            refine ax_s (pc' := 65) (st' := [.int s, .int r, .ref 6]) rfl rfl rfl rfl ?_
            refine ax_s (pc' := 67) (st' := [.int t, .int s, .int r, .ref 6]) rfl rfl rfl rfl ?_
            refine ax_call (vs := [.ref 6, .int r, .int s, .int t]) (rr := []) rfl rfl rfl ?_
            refine kt_hasPlaces (am_ix_nI (x1 c1 c2 c3 c4)) (am_ix_lt (x1 c1 c2 c3 c4)) ?_
            show am_ex (d + 9) 114 70 [some (.ref 5), some (.int p), some (.int q), some (.int r), some (.int s), some (.int t)] [.int (bI (decide (¬ s < 0 ∧ ¬ t < 0 ∧ ¬ (S 17 r.toNatClampNeg) < s ∧ ¬ (S 17 r.toNatClampNeg) - s < t)))] (am_hh X S L) _
            refine ax_pT rfl (fun c6 => ?_) (fun c6 => ?_)
            · exact absurd ⟨c1, c2, c3, c4, c5, c6⟩ hb
            · refine ax_s (pc' := 74) (st' := [.ref 5]) rfl rfl rfl rfl ?_
              refine ax_s (pc' := 75) (st' := [.int 2, .ref 5]) rfl rfl rfl rfl ?_
              refine ax_call (vs := [.ref 5, .int 2]) (rr := []) rfl rfl rfl ?_
              refine ax_in (ls := [some (.ref 5), some (.int 2)]) rfl ?_
              refine ax_s (pc' := 1) (st' := [.ref 5]) rfl rfl rfl rfl ?_
              refine ax_s (pc' := 2) (st' := [.int 2, .ref 5]) rfl rfl rfl rfl ?_
              refine ax_put rfl (hh_5 _ _ _) rfl rfl (show 12 + 1 ≤ _ from Nat.le_of_ble_eq_true rfl) rfl (am_hh_set _ _ _ 5 12 _ rfl) ?_
              refine ax_s (pc' := 8) (st' := [.int (-1000010)]) rfl rfl rfl rfl ?_
              refine ax_s (pc' := 9) (st' := [.int 2, .int (-1000010)]) rfl rfl rfl rfl ?_
              refine ax_s (pc' := 10) (st' := [.int (-1000012)]) rfl rfl rfl rfl ?_
              refine ax_r rfl rfl rfl ?_
              show am_ex (d + 9) 114 78 [some (.ref 5), some (.int p), some (.int q), some (.int r), some (.int s), some (.int t)] [.int (-1000012)] (am_hh X (am_u S 5 12 2) L) _
              refine ax_r rfl rfl rfl ?_
              unfold eg_k_who at hQ
              rw [if_pos c1, if_neg c2, if_pos c3, if_neg c4, if_neg c5, if_neg c6] at hQ
              exact hQ
          · refine ax_s (pc' := 53) (st' := [.ref 5]) rfl rfl rfl rfl ?_
            refine ax_s (pc' := 54) (st' := [.int 1, .ref 5]) rfl rfl rfl rfl ?_
            refine ax_call (vs := [.ref 5, .int 1]) (rr := []) rfl rfl rfl ?_
            refine ax_in (ls := [some (.ref 5), some (.int 1)]) rfl ?_
            refine ax_s (pc' := 1) (st' := [.ref 5]) rfl rfl rfl rfl ?_
            refine ax_s (pc' := 2) (st' := [.int 1, .ref 5]) rfl rfl rfl rfl ?_
            refine ax_put rfl (hh_5 _ _ _) rfl rfl (show 12 + 1 ≤ _ from Nat.le_of_ble_eq_true rfl) rfl (am_hh_set _ _ _ 5 12 _ rfl) ?_
            refine ax_s (pc' := 8) (st' := [.int (-1000010)]) rfl rfl rfl rfl ?_
            refine ax_s (pc' := 9) (st' := [.int 1, .int (-1000010)]) rfl rfl rfl rfl ?_
            refine ax_s (pc' := 10) (st' := [.int (-1000011)]) rfl rfl rfl rfl ?_
            refine ax_r rfl rfl rfl ?_
            show am_ex (d + 9) 114 57 [some (.ref 5), some (.int p), some (.int q), some (.int r), some (.int s), some (.int t)] [.int (-1000011)] (am_hh X (am_u S 5 12 1) L) _
            refine ax_r rfl rfl rfl ?_
            unfold eg_k_who at hQ
            rw [if_pos c1, if_neg c2, if_pos c3, if_neg c4, if_pos c5] at hQ
            exact hQ
        · refine ax_s (pc' := 40) (st' := [.int (-1000001)]) rfl rfl rfl rfl ?_
          refine ax_r rfl rfl rfl ?_
          unfold eg_k_who at hQ
          rw [if_pos c1, if_neg c2, if_pos c3, if_pos c4] at hQ
          exact hQ
def g_m_who (S : Nat → Nat → Int32) (p q r s t : Int32) : Prop := (¬ p < 0 ∧ ¬ (S 285 7) - 1 < p) ∧ (¬ q < 0 ∧ ¬ 4 < q) ∧ (¬ r < 0 ∧ ¬ 7 < r) ∧ (¬ t < 1 ∧ ¬ 12 < t) ∧ 0 ≤ (S 287 (r).toNatClampNeg) ∧ (¬ s < 0 ∧ ¬ t < 0 ∧ ¬ (S 287 (r).toNatClampNeg) < t ∧ ¬ (S 287 (r).toNatClampNeg) - t < s)
def eg_m_who (S : Nat → Nat → Int32) (p q r s t : Int32) : Int32 × (Nat → Nat → Int32) := (if ¬ p < 0 ∧ ¬ (S 285 7) - 1 < p then (if ¬ q < 0 ∧ ¬ 4 < q then (if ¬ r < 0 ∧ ¬ 7 < r then (if ¬ t < 1 ∧ ¬ 12 < t then (if 0 ≤ (S 287 (r).toNatClampNeg) then (if ¬ s < 0 ∧ ¬ t < 0 ∧ ¬ (S 287 (r).toNatClampNeg) < t ∧ ¬ (S 287 (r).toNatClampNeg) - t < s then (0, S) else ((-1000012), (am_u S 285 3 2))) else ((-1000011), (am_u S 285 3 1))) else ((-1000001), S)) else ((-1000001), S)) else ((-1000001), S)) else ((-1000001), S))
theorem wg_m_who {d : Nat} {X : Nat × (Nat → Int32)} {S : Nat → Nat → Int32} {L : Nat → Int64} {p q r s t : Int32} {Q : Option Value → am_H → Prop}  (x1 : ¬ p < 0 ∧ ¬ (S 285 7) - 1 < p → ¬ q < 0 ∧ ¬ 4 < q → ¬ r < 0 ∧ ¬ 7 < r → ¬ t < 1 ∧ ¬ 12 < t → am_ix r 8 = true) (hb : ¬ g_m_who S p q r s t) (hQ : Q (some (.int (eg_m_who S p q r s t).1)) (am_hh X (eg_m_who S p q r s t).2 L)) : am_mt (d + 9) 212 [.ref 285, .int p, .int q, .int r, .int s, .int t] (am_hh X S L) Q := by
  refine ax_in (ls := [some (.ref 285), some (.int p), some (.int q), some (.int r), some (.int s), some (.int t), none]) rfl ?_
  refine ax_s (pc' := 1) (st' := [.ref 285]) rfl rfl rfl rfl ?_
  refine ax_s (pc' := 2) (st' := [.int p, .ref 285]) rfl rfl rfl rfl ?_
  refine ax_call (vs := [.ref 285, .int p]) (rr := []) rfl rfl rfl ?_
  refine mt_isParty  ?_
  show am_ex (d + 9) 212 5 [some (.ref 285), some (.int p), some (.int q), some (.int r), some (.int s), some (.int t), none] [.int (bI (decide (¬ p < 0 ∧ ¬ (S 285 7) - 1 < p)))] (am_hh X S L) _
  refine ax_pF rfl (fun c1 => ?_) (fun c1 => ?_)
  · refine ax_s (pc' := 38) (st' := [.int (-1000001)]) rfl rfl rfl rfl ?_
    refine ax_r rfl rfl rfl ?_
    unfold eg_m_who at hQ
    rw [if_neg c1] at hQ
    exact hQ
  · refine ax_s (pc' := 9) (st' := [.int q]) rfl rfl rfl rfl ?_
    refine ax_s (pc' := 10) (st' := [.int 0, .int q]) rfl rfl rfl rfl ?_
    refine ax_s (pc' := 11) (st' := [.int 4, .int 0, .int q]) rfl rfl rfl rfl ?_
    refine ax_call (vs := [.int q, .int 0, .int 4]) (rr := []) rfl rfl rfl ?_
    refine mt_in ?_
    show am_ex (d + 9) 212 14 [some (.ref 285), some (.int p), some (.int q), some (.int r), some (.int s), some (.int t), none] [.int (bI (decide (¬ q < 0 ∧ ¬ 4 < q)))] (am_hh X S L) _
    refine ax_pF rfl (fun c2 => ?_) (fun c2 => ?_)
    · refine ax_s (pc' := 38) (st' := [.int (-1000001)]) rfl rfl rfl rfl ?_
      refine ax_r rfl rfl rfl ?_
      unfold eg_m_who at hQ
      rw [if_pos c1, if_neg c2] at hQ
      exact hQ
    · refine ax_s (pc' := 18) (st' := [.ref 285]) rfl rfl rfl rfl ?_
      refine ax_s (pc' := 19) (st' := [.int r, .ref 285]) rfl rfl rfl rfl ?_
      refine ax_call (vs := [.ref 285, .int r]) (rr := []) rfl rfl rfl ?_
      refine mt_isRow ?_
      show am_ex (d + 9) 212 22 [some (.ref 285), some (.int p), some (.int q), some (.int r), some (.int s), some (.int t), none] [.int (bI (decide (¬ r < 0 ∧ ¬ 7 < r)))] (am_hh X S L) _
      refine ax_pF rfl (fun c3 => ?_) (fun c3 => ?_)
      · refine ax_s (pc' := 38) (st' := [.int (-1000001)]) rfl rfl rfl rfl ?_
        refine ax_r rfl rfl rfl ?_
        unfold eg_m_who at hQ
        rw [if_pos c1, if_pos c2, if_neg c3] at hQ
        exact hQ
      · refine ax_s (pc' := 27) (st' := [.int t]) rfl rfl rfl rfl ?_
        refine ax_s (pc' := 28) (st' := [.int 1, .int t]) rfl rfl rfl rfl ?_
        refine ax_s (pc' := 30) (st' := [.int 12, .int 1, .int t]) rfl rfl rfl rfl ?_
        refine ax_call (vs := [.int t, .int 1, .int 12]) (rr := []) rfl rfl rfl ?_
        refine mt_in ?_
        show am_ex (d + 9) 212 33 [some (.ref 285), some (.int p), some (.int q), some (.int r), some (.int s), some (.int t), none] [.int (bI (decide (¬ t < 1 ∧ ¬ 12 < t)))] (am_hh X S L) _
        refine ax_pT rfl (fun c4 => ?_) (fun c4 => ?_)
        · refine ax_s (pc' := 40) (st' := [.ref 285]) rfl rfl rfl rfl ?_
          refine ax_get rfl (hh_285 _ _ _) rfl rfl rfl ?_
          show am_ex (d + 9) 212 43 [some (.ref 285), some (.int p), some (.int q), some (.int r), some (.int s), some (.int t), none] [.ref 287] (am_hh X S L) _
          refine ax_s (pc' := 44) (st' := [.int r, .ref 287]) rfl rfl rfl rfl ?_
          refine ax_ald' (v := (S 287 (r).toNatClampNeg)) rfl (hh_287 _ _ _) rfl (x1 c1 c2 c3 c4) rfl ?_
          refine ax_if_ge rfl (fun c5 => ?_) (fun c5 => ?_)
          · refine ax_s (pc' := 56) (st' := [.int s]) rfl rfl rfl rfl ?_
            refine ax_s (pc' := 58) (st' := [.int t, .int s]) rfl rfl rfl rfl ?_
            refine ax_s (pc' := 59) (st' := [.ref 285, .int t, .int s]) rfl rfl rfl rfl ?_
            refine ax_get rfl (hh_285 _ _ _) rfl rfl rfl ?_
            show am_ex (d + 9) 212 62 [some (.ref 285), some (.int p), some (.int q), some (.int r), some (.int s), some (.int t), none] [.ref 287, .int t, .int s] (am_hh X S L) _
            refine ax_s (pc' := 63) (st' := [.int r, .ref 287, .int t, .int s]) rfl rfl rfl rfl ?_
            refine ax_ald' (v := (S 287 (r).toNatClampNeg)) rfl (hh_287 _ _ _) rfl (x1 c1 c2 c3 c4) rfl ?_
            refine ax_call (vs := [.int s, .int t, .int (S 287 (r).toNatClampNeg)]) (rr := []) rfl rfl rfl ?_
            refine mt_isPart ?_
            show am_ex (d + 9) 212 67 [some (.ref 285), some (.int p), some (.int q), some (.int r), some (.int s), some (.int t), none] [.int (bI (decide (¬ s < 0 ∧ ¬ t < 0 ∧ ¬ (S 287 (r).toNatClampNeg) < t ∧ ¬ (S 287 (r).toNatClampNeg) - t < s)))] (am_hh X S L) _
            refine ax_pT rfl (fun c6 => ?_) (fun c6 => ?_)
            · exact absurd ⟨c1, c2, c3, c4, c5, c6⟩ hb
            · refine ax_s (pc' := 71) (st' := [.ref 285]) rfl rfl rfl rfl ?_
              refine ax_s (pc' := 72) (st' := [.int 2, .ref 285]) rfl rfl rfl rfl ?_
              refine ax_call (vs := [.ref 285, .int 2]) (rr := []) rfl rfl rfl ?_
              refine ax_in (ls := [some (.ref 285), some (.int 2)]) rfl ?_
              refine ax_s (pc' := 1) (st' := [.ref 285]) rfl rfl rfl rfl ?_
              refine ax_s (pc' := 2) (st' := [.int 2, .ref 285]) rfl rfl rfl rfl ?_
              refine ax_put rfl (hh_285 _ _ _) rfl rfl (show 3 + 1 ≤ _ from Nat.le_of_ble_eq_true rfl) rfl (am_hh_set _ _ _ 285 3 _ rfl) ?_
              refine ax_s (pc' := 7) (st' := [.int (-1000010)]) rfl rfl rfl rfl ?_
              refine ax_s (pc' := 8) (st' := [.int 2, .int (-1000010)]) rfl rfl rfl rfl ?_
              refine ax_s (pc' := 9) (st' := [.int (-1000012)]) rfl rfl rfl rfl ?_
              refine ax_r rfl rfl rfl ?_
              show am_ex (d + 9) 212 75 [some (.ref 285), some (.int p), some (.int q), some (.int r), some (.int s), some (.int t), none] [.int (-1000012)] (am_hh X (am_u S 285 3 2) L) _
              refine ax_r rfl rfl rfl ?_
              unfold eg_m_who at hQ
              rw [if_pos c1, if_pos c2, if_pos c3, if_pos c4, if_pos c5, if_neg c6] at hQ
              exact hQ
          · refine ax_s (pc' := 49) (st' := [.ref 285]) rfl rfl rfl rfl ?_
            refine ax_s (pc' := 50) (st' := [.int 1, .ref 285]) rfl rfl rfl rfl ?_
            refine ax_call (vs := [.ref 285, .int 1]) (rr := []) rfl rfl rfl ?_
            refine ax_in (ls := [some (.ref 285), some (.int 1)]) rfl ?_
            refine ax_s (pc' := 1) (st' := [.ref 285]) rfl rfl rfl rfl ?_
            refine ax_s (pc' := 2) (st' := [.int 1, .ref 285]) rfl rfl rfl rfl ?_
            refine ax_put rfl (hh_285 _ _ _) rfl rfl (show 3 + 1 ≤ _ from Nat.le_of_ble_eq_true rfl) rfl (am_hh_set _ _ _ 285 3 _ rfl) ?_
            refine ax_s (pc' := 7) (st' := [.int (-1000010)]) rfl rfl rfl rfl ?_
            refine ax_s (pc' := 8) (st' := [.int 1, .int (-1000010)]) rfl rfl rfl rfl ?_
            refine ax_s (pc' := 9) (st' := [.int (-1000011)]) rfl rfl rfl rfl ?_
            refine ax_r rfl rfl rfl ?_
            show am_ex (d + 9) 212 53 [some (.ref 285), some (.int p), some (.int q), some (.int r), some (.int s), some (.int t), none] [.int (-1000011)] (am_hh X (am_u S 285 3 1) L) _
            refine ax_r rfl rfl rfl ?_
            unfold eg_m_who at hQ
            rw [if_pos c1, if_pos c2, if_pos c3, if_pos c4, if_neg c5] at hQ
            exact hQ
        · refine ax_s (pc' := 38) (st' := [.int (-1000001)]) rfl rfl rfl rfl ?_
          refine ax_r rfl rfl rfl ?_
          unfold eg_m_who at hQ
          rw [if_pos c1, if_pos c2, if_pos c3, if_neg c4] at hQ
          exact hQ
theorem wv_k_who0 {d : Nat} {X : Nat × (Nat → Int32)} {S : Nat → Nat → Int32} {L : Nat → Int64} {g n r f N j : Nat} {t : Nat → Int32} {Q : Option Value → am_H → Prop} (hr : r < 8) (hfN : f + N ≤ 40) (ht : ∀ i, i < N → S (8 + 1 * r) (f + i) = t i) (hf : wF (am_sub S 20) g n) (hc9 : w_cl (am_sub S 29)) (hc0 : w_cl (am_sub S 20)) (hj : j < 6)  (hg : (¬ (nI j) < 0 ∧ ¬ (S 20 4) ≤ (nI j)) ∧ (¬ (nI r) < 0 ∧ ¬ 8 ≤ (nI r)) ∧ (¬ ((nI N) < 1 ∨ 12 < (nI N))) ∧ ¬ ((S 17 r) = -1) ∧ (¬ (nI f) < 0 ∧ ¬ (nI N) < 0 ∧ ¬ (S 17 r) < (nI f) ∧ ¬ (S 17 r) - (nI f) < (nI N))) (x1 : ¬ (nI j) < 0 ∧ ¬ (S 20 4) ≤ (nI j) → ¬ (nI r) < 0 ∧ ¬ 8 ≤ (nI r) → ¬ ((nI N) < 1 ∨ 12 < (nI N)) → r < 8) (x2 : r < 8) (k1 : ∀ W7 : Nat → Nat → Int32, w_cl W7 → Q (some (.int (gb (fun v => w_ls g n t N 0 (am_u (am_sub S 20) 2 j (nI v))) 5 1 0))) (am_hh X (am_ovl (am_u S 5 12 0) 29 W7) L)) : am_mt (d + 9) 114 [.ref 5, .int (nI j), .int 0, .int (nI r), .int (nI f), .int (nI N)] (am_hh X S L) Q := by
  refine ax_in (ls := [some (.ref 5), some (.int (nI j)), some (.int 0), some (.int (nI r)), some (.int (nI f)), some (.int (nI N))]) rfl ?_
  refine ax_s (pc' := 1) (st' := [.ref 5]) rfl rfl rfl rfl ?_
  refine ax_get rfl (hh_5 _ _ _) rfl rfl rfl ?_
  show am_ex (d + 9) 114 4 [some (.ref 5), some (.int (nI j)), some (.int 0), some (.int (nI r)), some (.int (nI f)), some (.int (nI N))] [.ref 20] (am_hh X S L) _
  refine ax_s (pc' := 5) (st' := [.int (nI j), .ref 20]) rfl rfl rfl rfl ?_
  refine ax_call (vs := [.ref 20, .int (nI j)]) (rr := []) rfl rfl rfl ?_
  refine kw (am_hh_sub isW20 X S L) (am_hh_sub isW20 X S L).symm (fun _ => ct_hasParty (am_isW_k isW20 X S L)) ?_
  show am_ex (d + 9) 114 8 [some (.ref 5), some (.int (nI j)), some (.int 0), some (.int (nI r)), some (.int (nI f)), some (.int (nI N))] [.int (bI (decide (¬ (nI j) < 0 ∧ ¬ (S 20 4) ≤ (nI j))))] (am_hh X S L) _
  refine ax_pF rfl (fun c1 => ?_) (fun c1 => ?_)
  · refine ax_s (pc' := 40) (st' := [.int (-1000001)]) rfl rfl rfl rfl ?_
    refine ax_r rfl rfl rfl ?_
    first | exact absurd (hg.1) c1 | exact absurd c1 (hg.1) | exact absurd (hg.1) (ne_true_of_eq_false c1)
  · refine ax_s (pc' := 12) (st' := [.int 0]) rfl rfl rfl rfl ?_
    refine ax_s (pc' := 13) (st' := [.int 0, .int 0]) rfl rfl rfl rfl ?_
    refine ax_s (pc' := 14) (st' := [.int 4, .int 0, .int 0]) rfl rfl rfl rfl ?_
    refine ax_call (vs := [.int 0, .int 0, .int 4]) (rr := []) rfl rfl rfl ?_
    refine ct_isOutside ?_
    show am_ex (d + 9) 114 17 [some (.ref 5), some (.int (nI j)), some (.int 0), some (.int (nI r)), some (.int (nI f)), some (.int (nI N))] [.int 0] (am_hh X S L) _
    refine ax_if_ne rfl (fun c2 => False.elim (by revert c2; decide)) (fun c2 => ?_)
    refine ax_s (pc' := 21) (st' := [.int (nI r)]) rfl rfl rfl rfl ?_
    refine ax_call (vs := [.int (nI r)]) (rr := []) rfl rfl rfl ?_
    refine ct_isRow ?_
    show am_ex (d + 9) 114 24 [some (.ref 5), some (.int (nI j)), some (.int 0), some (.int (nI r)), some (.int (nI f)), some (.int (nI N))] [.int (bI (decide (¬ (nI r) < 0 ∧ ¬ 8 ≤ (nI r))))] (am_hh X S L) _
    refine ax_pF rfl (fun c3 => ?_) (fun c3 => ?_)
    · refine ax_s (pc' := 40) (st' := [.int (-1000001)]) rfl rfl rfl rfl ?_
      refine ax_r rfl rfl rfl ?_
      first | exact absurd (hg.2.1) c3 | exact absurd c3 (hg.2.1) | exact absurd (hg.2.1) (ne_true_of_eq_false c3)
    · refine ax_s (pc' := 29) (st' := [.int (nI N)]) rfl rfl rfl rfl ?_
      refine ax_s (pc' := 30) (st' := [.int 1, .int (nI N)]) rfl rfl rfl rfl ?_
      refine ax_s (pc' := 32) (st' := [.int 12, .int 1, .int (nI N)]) rfl rfl rfl rfl ?_
      refine ax_call (vs := [.int (nI N), .int 1, .int 12]) (rr := []) rfl rfl rfl ?_
      refine ct_isOutside ?_
      show am_ex (d + 9) 114 35 [some (.ref 5), some (.int (nI j)), some (.int 0), some (.int (nI r)), some (.int (nI f)), some (.int (nI N))] [.int (bI (decide ((nI N) < 1 ∨ 12 < (nI N))))] (am_hh X S L) _
      refine ax_pF rfl (fun c4 => ?_) (fun c4 => ?_)
      · refine ax_s (pc' := 42) (st' := [.ref 5]) rfl rfl rfl rfl ?_
        refine ax_get rfl (hh_5 _ _ _) rfl rfl rfl ?_
        show am_ex (d + 9) 114 45 [some (.ref 5), some (.int (nI j)), some (.int 0), some (.int (nI r)), some (.int (nI f)), some (.int (nI N))] [.ref 6] (am_hh X S L) _
        refine ax_s (pc' := 46) (st' := [.int (nI r), .ref 6]) rfl rfl rfl rfl ?_
        refine ax_call (vs := [.ref 6, .int (nI r)]) (rr := []) rfl rfl rfl ?_
        refine kt_isMissing rfl (x1 c1 c3 c4) ?_
        show am_ex (d + 9) 114 49 [some (.ref 5), some (.int (nI j)), some (.int 0), some (.int (nI r)), some (.int (nI f)), some (.int (nI N))] [.int (bI (decide ((S 17 r) = -1)))] (am_hh X S L) _
        refine ax_pF rfl (fun c5 => ?_) (fun c5 => ?_)
        · refine ax_s (pc' := 59) (st' := [.ref 5]) rfl rfl rfl rfl ?_
          refine ax_get rfl (hh_5 _ _ _) rfl rfl rfl ?_
          show am_ex (d + 9) 114 62 [some (.ref 5), some (.int (nI j)), some (.int 0), some (.int (nI r)), some (.int (nI f)), some (.int (nI N))] [.ref 6] (am_hh X S L) _
          refine ax_s (pc' := 63) (st' := [.int (nI r), .ref 6]) rfl rfl rfl rfl ?_
          refine ax_s (pc' := 65) (st' := [.int (nI f), .int (nI r), .ref 6]) rfl rfl rfl rfl ?_
          refine ax_s (pc' := 67) (st' := [.int (nI N), .int (nI f), .int (nI r), .ref 6]) rfl rfl rfl rfl ?_
          refine ax_call (vs := [.ref 6, .int (nI r), .int (nI f), .int (nI N)]) (rr := []) rfl rfl rfl ?_
          refine kt_hasPlaces rfl (x1 c1 c3 c4) ?_
          show am_ex (d + 9) 114 70 [some (.ref 5), some (.int (nI j)), some (.int 0), some (.int (nI r)), some (.int (nI f)), some (.int (nI N))] [.int (bI (decide (¬ (nI f) < 0 ∧ ¬ (nI N) < 0 ∧ ¬ (S 17 r) < (nI f) ∧ ¬ (S 17 r) - (nI f) < (nI N))))] (am_hh X S L) _
          refine ax_pT rfl (fun c6 => ?_) (fun c6 => ?_)
          · refine ax_s (pc' := 80) (st' := [.ref 5]) rfl rfl rfl rfl ?_
            refine ax_s (pc' := 81) (st' := [.ref 5, .ref 5]) rfl rfl rfl rfl ?_
            refine ax_get rfl (hh_5 _ _ _) rfl rfl rfl ?_
            show am_ex (d + 9) 114 84 [some (.ref 5), some (.int (nI j)), some (.int 0), some (.int (nI r)), some (.int (nI f)), some (.int (nI N))] [.ref 280, .ref 5] (am_hh X S L) _
            refine ax_s (pc' := 85) (st' := [.int (nI j), .ref 280, .ref 5]) rfl rfl rfl rfl ?_
            refine ax_s (pc' := 86) (st' := [.int 0, .int (nI j), .ref 280, .ref 5]) rfl rfl rfl rfl ?_
            refine ax_s (pc' := 87) (st' := [.ref 5, .int 0, .int (nI j), .ref 280, .ref 5]) rfl rfl rfl rfl ?_
            refine ax_get rfl (hh_5 _ _ _) rfl rfl rfl ?_
            show am_ex (d + 9) 114 90 [some (.ref 5), some (.int (nI j)), some (.int 0), some (.int (nI r)), some (.int (nI f)), some (.int (nI N))] [.ref 6, .int 0, .int (nI j), .ref 280, .ref 5] (am_hh X S L) _
            refine ax_get rfl (hh_6 _ _ _) rfl rfl rfl ?_
            show am_ex (d + 9) 114 93 [some (.ref 5), some (.int (nI j)), some (.int 0), some (.int (nI r)), some (.int (nI f)), some (.int (nI N))] [.ref 7, .int 0, .int (nI j), .ref 280, .ref 5] (am_hh X S L) _
            refine ax_s (pc' := 94) (st' := [.int (nI r), .ref 7, .int 0, .int (nI j), .ref 280, .ref 5]) rfl rfl rfl rfl ?_
            refine ax_qld (j := r) (b := (8 + 1 * r)) rfl (hh_7 _ _ _) rfl (by decide) rfl x2 (by decide) (if_pos x2) ?_
            refine ax_s (pc' := 97) (st' := [.int (nI f), .ref (8 + 1 * r), .int 0, .int (nI j), .ref 280, .ref 5]) rfl rfl rfl rfl ?_
            refine ax_s (pc' := 99) (st' := [.int (nI N), .int (nI f), .ref (8 + 1 * r), .int 0, .int (nI j), .ref 280, .ref 5]) rfl rfl rfl rfl ?_
            refine ax_call (vs := [.ref 280, .int (nI j), .int 0, .ref (8 + 1 * r), .int (nI f), .int (nI N)]) (rr := [.ref 5]) rfl rfl rfl ?_
            refine kt_guess0 hr hfN ht hf hc9 hc0 hj (fun W7 h7 => ?_)
            show am_ex (d + 9) 114 102 [some (.ref 5), some (.int (nI j)), some (.int 0), some (.int (nI r)), some (.int (nI f)), some (.int (nI N))] [.int (gb (fun v => w_ls g n t N 0 (am_u (am_sub S 20) 2 j (nI v))) 5 1 0), .ref 5] (am_hh X (am_ovl S 29 W7) L) _
            refine ax_call (vs := [.ref 5, .int (gb (fun v => w_ls g n t N 0 (am_u (am_sub S 20) 2 j (nI v))) 5 1 0)]) (rr := []) rfl rfl rfl ?_
            refine ax_in (ls := [some (.ref 5), some (.int (gb (fun v => w_ls g n t N 0 (am_u (am_sub S 20) 2 j (nI v))) 5 1 0))]) rfl ?_
            refine ax_s (pc' := 1) (st' := [.ref 5]) rfl rfl rfl rfl ?_
            refine ax_s (pc' := 2) (st' := [.int 0, .ref 5]) rfl rfl rfl rfl ?_
            refine ax_put rfl (hh_5 _ _ _) rfl rfl (show 12 + 1 ≤ _ from Nat.le_of_ble_eq_true rfl) rfl (am_hh_setO (i := 12) (v := 0) _ _ _ _ (by decide) rfl) ?_
            refine ax_s (pc' := 6) (st' := [.int (gb (fun v => w_ls g n t N 0 (am_u (am_sub S 20) 2 j (nI v))) 5 1 0)]) rfl rfl rfl rfl ?_
            refine ax_r rfl rfl rfl ?_
            show am_ex (d + 9) 114 105 [some (.ref 5), some (.int (nI j)), some (.int 0), some (.int (nI r)), some (.int (nI f)), some (.int (nI N))] [.int (gb (fun v => w_ls g n t N 0 (am_u (am_sub S 20) 2 j (nI v))) 5 1 0)] (am_hh X (am_ovl (am_u S 5 12 0) 29 W7) L) _
            refine ax_r rfl rfl rfl ?_
            exact k1 W7 h7
          · refine ax_s (pc' := 74) (st' := [.ref 5]) rfl rfl rfl rfl ?_
            refine ax_s (pc' := 75) (st' := [.int 2, .ref 5]) rfl rfl rfl rfl ?_
            refine ax_call (vs := [.ref 5, .int 2]) (rr := []) rfl rfl rfl ?_
            refine ax_in (ls := [some (.ref 5), some (.int 2)]) rfl ?_
            refine ax_s (pc' := 1) (st' := [.ref 5]) rfl rfl rfl rfl ?_
            refine ax_s (pc' := 2) (st' := [.int 2, .ref 5]) rfl rfl rfl rfl ?_
            refine ax_put rfl (hh_5 _ _ _) rfl rfl (show 12 + 1 ≤ _ from Nat.le_of_ble_eq_true rfl) rfl (am_hh_set _ _ _ 5 12 _ rfl) ?_
            refine ax_s (pc' := 8) (st' := [.int (-1000010)]) rfl rfl rfl rfl ?_
            refine ax_s (pc' := 9) (st' := [.int 2, .int (-1000010)]) rfl rfl rfl rfl ?_
            refine ax_s (pc' := 10) (st' := [.int (-1000012)]) rfl rfl rfl rfl ?_
            refine ax_r rfl rfl rfl ?_
            show am_ex (d + 9) 114 78 [some (.ref 5), some (.int (nI j)), some (.int 0), some (.int (nI r)), some (.int (nI f)), some (.int (nI N))] [.int (-1000012)] (am_hh X (am_u S 5 12 2) L) _
            refine ax_r rfl rfl rfl ?_
            first | exact absurd (hg.2.2.2.2) c6 | exact absurd c6 (hg.2.2.2.2) | exact absurd (hg.2.2.2.2) (ne_true_of_eq_false c6)
        · refine ax_s (pc' := 53) (st' := [.ref 5]) rfl rfl rfl rfl ?_
          refine ax_s (pc' := 54) (st' := [.int 1, .ref 5]) rfl rfl rfl rfl ?_
          refine ax_call (vs := [.ref 5, .int 1]) (rr := []) rfl rfl rfl ?_
          refine ax_in (ls := [some (.ref 5), some (.int 1)]) rfl ?_
          refine ax_s (pc' := 1) (st' := [.ref 5]) rfl rfl rfl rfl ?_
          refine ax_s (pc' := 2) (st' := [.int 1, .ref 5]) rfl rfl rfl rfl ?_
          refine ax_put rfl (hh_5 _ _ _) rfl rfl (show 12 + 1 ≤ _ from Nat.le_of_ble_eq_true rfl) rfl (am_hh_set _ _ _ 5 12 _ rfl) ?_
          refine ax_s (pc' := 8) (st' := [.int (-1000010)]) rfl rfl rfl rfl ?_
          refine ax_s (pc' := 9) (st' := [.int 1, .int (-1000010)]) rfl rfl rfl rfl ?_
          refine ax_s (pc' := 10) (st' := [.int (-1000011)]) rfl rfl rfl rfl ?_
          refine ax_r rfl rfl rfl ?_
          show am_ex (d + 9) 114 57 [some (.ref 5), some (.int (nI j)), some (.int 0), some (.int (nI r)), some (.int (nI f)), some (.int (nI N))] [.int (-1000011)] (am_hh X (am_u S 5 12 1) L) _
          refine ax_r rfl rfl rfl ?_
          first | exact absurd (hg.2.2.2.1) c5 | exact absurd c5 (hg.2.2.2.1) | exact absurd (hg.2.2.2.1) (ne_true_of_eq_false c5)
      · refine ax_s (pc' := 40) (st' := [.int (-1000001)]) rfl rfl rfl rfl ?_
        refine ax_r rfl rfl rfl ?_
        first | exact absurd (hg.2.2.1) c4 | exact absurd c4 (hg.2.2.1) | exact absurd (hg.2.2.1) (ne_true_of_eq_false c4)
theorem wv_m_who0 {d : Nat} {X : Nat × (Nat → Int32)} {S : Nat → Nat → Int32} {L : Nat → Int64} {g n r f N j : Nat} {t : Nat → Int32} {W : Nat → Nat → Int32} {Q : Option Value → am_H → Prop} (hR : mR W (am_u S 285 3 0) 293 g n) (hK : JK (am_u S 285 3 0)) (hr : r < 8) (hfN : f + N ≤ 40) (hf40 : f < 40) (ht : ∀ i, i < N → (am_u S 285 3 0) 288 (40 * r + f + i) = t i) (hj : j < 6)  (hg : (¬ (nI j) < 0 ∧ ¬ (S 285 7) - 1 < (nI j)) ∧ (¬ (nI r) < 0 ∧ ¬ 7 < (nI r)) ∧ (¬ (nI N) < 1 ∧ ¬ 12 < (nI N)) ∧ 0 ≤ (S 287 r) ∧ (¬ (nI f) < 0 ∧ ¬ (nI N) < 0 ∧ ¬ (S 287 r) < (nI N) ∧ ¬ (S 287 r) - (nI N) < (nI f))) (x1 : ¬ (nI j) < 0 ∧ ¬ (S 285 7) - 1 < (nI j) → ¬ (nI r) < 0 ∧ ¬ 7 < (nI r) → ¬ (nI N) < 1 ∧ ¬ 12 < (nI N) → r < 8) (k1 : ∀ S7 : Nat → Nat → Int32, F8 (am_u S 285 3 0) S7 → Q (some (.int (gb (fun v => w_ls g n t N 0 (am_u W 2 j (nI v))) 5 1 0))) (am_hh X S7 L)) : am_mt (d + 10) 212 [.ref 285, .int (nI j), .int 0, .int (nI r), .int (nI f), .int (nI N)] (am_hh X S L) Q := by
  refine ax_in (ls := [some (.ref 285), some (.int (nI j)), some (.int 0), some (.int (nI r)), some (.int (nI f)), some (.int (nI N)), none]) rfl ?_
  refine ax_s (pc' := 1) (st' := [.ref 285]) rfl rfl rfl rfl ?_
  refine ax_s (pc' := 2) (st' := [.int (nI j), .ref 285]) rfl rfl rfl rfl ?_
  refine ax_call (vs := [.ref 285, .int (nI j)]) (rr := []) rfl rfl rfl ?_
  refine mt_isParty  ?_
  show am_ex (d + 10) 212 5 [some (.ref 285), some (.int (nI j)), some (.int 0), some (.int (nI r)), some (.int (nI f)), some (.int (nI N)), none] [.int (bI (decide (¬ (nI j) < 0 ∧ ¬ (S 285 7) - 1 < (nI j))))] (am_hh X S L) _
  refine ax_pF rfl (fun c1 => ?_) (fun c1 => ?_)
  · refine ax_s (pc' := 38) (st' := [.int (-1000001)]) rfl rfl rfl rfl ?_
    refine ax_r rfl rfl rfl ?_
    first | exact absurd (hg.1) c1 | exact absurd c1 (hg.1) | exact absurd (hg.1) (ne_true_of_eq_false c1)
  · refine ax_s (pc' := 9) (st' := [.int 0]) rfl rfl rfl rfl ?_
    refine ax_s (pc' := 10) (st' := [.int 0, .int 0]) rfl rfl rfl rfl ?_
    refine ax_s (pc' := 11) (st' := [.int 4, .int 0, .int 0]) rfl rfl rfl rfl ?_
    refine ax_call (vs := [.int 0, .int 0, .int 4]) (rr := []) rfl rfl rfl ?_
    refine mt_in ?_
    show am_ex (d + 10) 212 14 [some (.ref 285), some (.int (nI j)), some (.int 0), some (.int (nI r)), some (.int (nI f)), some (.int (nI N)), none] [.int 1] (am_hh X S L) _
    refine ax_if_eq rfl (fun c2 => False.elim (by revert c2; decide)) (fun c2 => ?_)
    refine ax_s (pc' := 18) (st' := [.ref 285]) rfl rfl rfl rfl ?_
    refine ax_s (pc' := 19) (st' := [.int (nI r), .ref 285]) rfl rfl rfl rfl ?_
    refine ax_call (vs := [.ref 285, .int (nI r)]) (rr := []) rfl rfl rfl ?_
    refine mt_isRow ?_
    show am_ex (d + 10) 212 22 [some (.ref 285), some (.int (nI j)), some (.int 0), some (.int (nI r)), some (.int (nI f)), some (.int (nI N)), none] [.int (bI (decide (¬ (nI r) < 0 ∧ ¬ 7 < (nI r))))] (am_hh X S L) _
    refine ax_pF rfl (fun c3 => ?_) (fun c3 => ?_)
    · refine ax_s (pc' := 38) (st' := [.int (-1000001)]) rfl rfl rfl rfl ?_
      refine ax_r rfl rfl rfl ?_
      first | exact absurd (hg.2.1) c3 | exact absurd c3 (hg.2.1) | exact absurd (hg.2.1) (ne_true_of_eq_false c3)
    · refine ax_s (pc' := 27) (st' := [.int (nI N)]) rfl rfl rfl rfl ?_
      refine ax_s (pc' := 28) (st' := [.int 1, .int (nI N)]) rfl rfl rfl rfl ?_
      refine ax_s (pc' := 30) (st' := [.int 12, .int 1, .int (nI N)]) rfl rfl rfl rfl ?_
      refine ax_call (vs := [.int (nI N), .int 1, .int 12]) (rr := []) rfl rfl rfl ?_
      refine mt_in ?_
      show am_ex (d + 10) 212 33 [some (.ref 285), some (.int (nI j)), some (.int 0), some (.int (nI r)), some (.int (nI f)), some (.int (nI N)), none] [.int (bI (decide (¬ (nI N) < 1 ∧ ¬ 12 < (nI N))))] (am_hh X S L) _
      refine ax_pT rfl (fun c4 => ?_) (fun c4 => ?_)
      · refine ax_s (pc' := 40) (st' := [.ref 285]) rfl rfl rfl rfl ?_
        refine ax_get rfl (hh_285 _ _ _) rfl rfl rfl ?_
        show am_ex (d + 10) 212 43 [some (.ref 285), some (.int (nI j)), some (.int 0), some (.int (nI r)), some (.int (nI f)), some (.int (nI N)), none] [.ref 287] (am_hh X S L) _
        refine ax_s (pc' := 44) (st' := [.int (nI r), .ref 287]) rfl rfl rfl rfl ?_
        refine ax_ald (j := r) (v := (S 287 r)) rfl (hh_287 _ _ _) rfl rfl (x1 c1 c3 c4) (by decide) rfl ?_
        refine ax_if_ge rfl (fun c5 => ?_) (fun c5 => ?_)
        · refine ax_s (pc' := 56) (st' := [.int (nI f)]) rfl rfl rfl rfl ?_
          refine ax_s (pc' := 58) (st' := [.int (nI N), .int (nI f)]) rfl rfl rfl rfl ?_
          refine ax_s (pc' := 59) (st' := [.ref 285, .int (nI N), .int (nI f)]) rfl rfl rfl rfl ?_
          refine ax_get rfl (hh_285 _ _ _) rfl rfl rfl ?_
          show am_ex (d + 10) 212 62 [some (.ref 285), some (.int (nI j)), some (.int 0), some (.int (nI r)), some (.int (nI f)), some (.int (nI N)), none] [.ref 287, .int (nI N), .int (nI f)] (am_hh X S L) _
          refine ax_s (pc' := 63) (st' := [.int (nI r), .ref 287, .int (nI N), .int (nI f)]) rfl rfl rfl rfl ?_
          refine ax_ald (j := r) (v := (S 287 r)) rfl (hh_287 _ _ _) rfl rfl (x1 c1 c3 c4) (by decide) rfl ?_
          refine ax_call (vs := [.int (nI f), .int (nI N), .int (S 287 r)]) (rr := []) rfl rfl rfl ?_
          refine mt_isPart ?_
          show am_ex (d + 10) 212 67 [some (.ref 285), some (.int (nI j)), some (.int 0), some (.int (nI r)), some (.int (nI f)), some (.int (nI N)), none] [.int (bI (decide (¬ (nI f) < 0 ∧ ¬ (nI N) < 0 ∧ ¬ (S 287 r) < (nI N) ∧ ¬ (S 287 r) - (nI N) < (nI f))))] (am_hh X S L) _
          refine ax_pT rfl (fun c6 => ?_) (fun c6 => ?_)
          · refine ax_s (pc' := 77) (st' := [.ref 285]) rfl rfl rfl rfl ?_
            refine ax_s (pc' := 78) (st' := [.int 0, .ref 285]) rfl rfl rfl rfl ?_
            refine ax_put rfl (hh_285 _ _ _) rfl rfl (show 3 + 1 ≤ _ from Nat.le_of_ble_eq_true rfl) rfl (am_hh_set _ _ _ 285 3 _ rfl) ?_
            refine ax_s (pc' := 83) (st' := [.int 40]) rfl rfl rfl rfl ?_
            refine ax_s (pc' := 84) (st' := [.int (nI r), .int 40]) rfl rfl rfl rfl ?_
            refine ax_s (pc' := 85) (st' := [.int (40 * (nI r))]) rfl rfl rfl rfl ?_
            refine ax_s (pc' := 87) (st' := [.int (nI f), .int (40 * (nI r))]) rfl rfl rfl rfl ?_
            refine ax_s (pc' := 88) (st' := [.int ((40 * (nI r)) + (nI f))]) rfl rfl rfl rfl ?_
            refine ax_s (pc' := 90) (ls' := [some (.ref 285), some (.int (nI j)), some (.int 0), some (.int (nI r)), some (.int (nI f)), some (.int (nI N)), some (.int ((40 * (nI r)) + (nI f)))]) (st' := []) rfl rfl rfl rfl ?_
            refine ax_s (pc' := 91) (st' := [.int 0]) rfl rfl rfl rfl ?_
            refine ax_s (pc' := 116) (ls' := [some (.ref 285), some (.int (nI j)), some (.int 0), some (.int (nI r)), some (.int (nI f)), some (.int (nI N)), some (.int ((40 * (nI r)) + (nI f)))]) (st' := []) (h1 := (am_hh X (am_u S 285 3 0) L)) rfl rfl rfl rfl ?_
            refine ax_s (pc' := 117) (st' := [.ref 285]) rfl rfl rfl rfl ?_
            refine ax_s (pc' := 118) (st' := [.ref 285, .ref 285]) rfl rfl rfl rfl ?_
            refine ax_get rfl (hh_285 _ _ _) rfl rfl rfl ?_
            show am_ex (d + 10) 212 121 [some (.ref 285), some (.int (nI j)), some (.int 0), some (.int (nI r)), some (.int (nI f)), some (.int (nI N)), some (.int ((40 * (nI r)) + (nI f)))] [.ref 290, .ref 285] (am_hh X (am_u S 285 3 0) L) _
            refine ax_s (pc' := 122) (st' := [.int (nI j), .ref 290, .ref 285]) rfl rfl rfl rfl ?_
            refine ax_s (pc' := 123) (st' := [.int 5, .int (nI j), .ref 290, .ref 285]) rfl rfl rfl rfl ?_
            refine ax_s (pc' := 125) (st' := [.int ((40 * (nI r)) + (nI f)), .int 5, .int (nI j), .ref 290, .ref 285]) rfl rfl rfl rfl ?_
            refine ax_s (pc' := 127) (st' := [.int (nI N), .int ((40 * (nI r)) + (nI f)), .int 5, .int (nI j), .ref 290, .ref 285]) rfl rfl rfl rfl ?_
            refine ax_call (vs := [.ref 285, .ref 290, .int (nI j), .int 5, .int ((40 * (nI r)) + (nI f)), .int (nI N)]) (rr := []) rfl rfl rfl ?_
            refine mt_byRow2 hR hK hr hfN ht (at_div hr hf40) (at_rem hr hf40) hj (fun S7 h7 => ?_)
            show am_ex (d + 10) 212 130 [some (.ref 285), some (.int (nI j)), some (.int 0), some (.int (nI r)), some (.int (nI f)), some (.int (nI N)), some (.int ((40 * (nI r)) + (nI f)))] [.int (gb (fun v => w_ls g n t N 0 (am_u W 2 j (nI v))) 5 1 0)] (am_hh X S7 L) _
            refine ax_r rfl rfl rfl ?_
            exact k1 S7 h7
          · refine ax_s (pc' := 71) (st' := [.ref 285]) rfl rfl rfl rfl ?_
            refine ax_s (pc' := 72) (st' := [.int 2, .ref 285]) rfl rfl rfl rfl ?_
            refine ax_call (vs := [.ref 285, .int 2]) (rr := []) rfl rfl rfl ?_
            refine ax_in (ls := [some (.ref 285), some (.int 2)]) rfl ?_
            refine ax_s (pc' := 1) (st' := [.ref 285]) rfl rfl rfl rfl ?_
            refine ax_s (pc' := 2) (st' := [.int 2, .ref 285]) rfl rfl rfl rfl ?_
            refine ax_put rfl (hh_285 _ _ _) rfl rfl (show 3 + 1 ≤ _ from Nat.le_of_ble_eq_true rfl) rfl (am_hh_set _ _ _ 285 3 _ rfl) ?_
            refine ax_s (pc' := 7) (st' := [.int (-1000010)]) rfl rfl rfl rfl ?_
            refine ax_s (pc' := 8) (st' := [.int 2, .int (-1000010)]) rfl rfl rfl rfl ?_
            refine ax_s (pc' := 9) (st' := [.int (-1000012)]) rfl rfl rfl rfl ?_
            refine ax_r rfl rfl rfl ?_
            show am_ex (d + 10) 212 75 [some (.ref 285), some (.int (nI j)), some (.int 0), some (.int (nI r)), some (.int (nI f)), some (.int (nI N)), none] [.int (-1000012)] (am_hh X (am_u S 285 3 2) L) _
            refine ax_r rfl rfl rfl ?_
            first | exact absurd (hg.2.2.2.2) c6 | exact absurd c6 (hg.2.2.2.2) | exact absurd (hg.2.2.2.2) (ne_true_of_eq_false c6)
        · refine ax_s (pc' := 49) (st' := [.ref 285]) rfl rfl rfl rfl ?_
          refine ax_s (pc' := 50) (st' := [.int 1, .ref 285]) rfl rfl rfl rfl ?_
          refine ax_call (vs := [.ref 285, .int 1]) (rr := []) rfl rfl rfl ?_
          refine ax_in (ls := [some (.ref 285), some (.int 1)]) rfl ?_
          refine ax_s (pc' := 1) (st' := [.ref 285]) rfl rfl rfl rfl ?_
          refine ax_s (pc' := 2) (st' := [.int 1, .ref 285]) rfl rfl rfl rfl ?_
          refine ax_put rfl (hh_285 _ _ _) rfl rfl (show 3 + 1 ≤ _ from Nat.le_of_ble_eq_true rfl) rfl (am_hh_set _ _ _ 285 3 _ rfl) ?_
          refine ax_s (pc' := 7) (st' := [.int (-1000010)]) rfl rfl rfl rfl ?_
          refine ax_s (pc' := 8) (st' := [.int 1, .int (-1000010)]) rfl rfl rfl rfl ?_
          refine ax_s (pc' := 9) (st' := [.int (-1000011)]) rfl rfl rfl rfl ?_
          refine ax_r rfl rfl rfl ?_
          show am_ex (d + 10) 212 53 [some (.ref 285), some (.int (nI j)), some (.int 0), some (.int (nI r)), some (.int (nI f)), some (.int (nI N)), none] [.int (-1000011)] (am_hh X (am_u S 285 3 1) L) _
          refine ax_r rfl rfl rfl ?_
          first | exact absurd (hg.2.2.2.1) c5 | exact absurd c5 (hg.2.2.2.1) | exact absurd (hg.2.2.2.1) (ne_true_of_eq_false c5)
      · refine ax_s (pc' := 38) (st' := [.int (-1000001)]) rfl rfl rfl rfl ?_
        refine ax_r rfl rfl rfl ?_
        first | exact absurd (hg.2.2.1) c4 | exact absurd c4 (hg.2.2.1) | exact absurd (hg.2.2.1) (ne_true_of_eq_false c4)
theorem wv_k_who1 {d : Nat} {X : Nat × (Nat → Int32)} {S : Nat → Nat → Int32} {L : Nat → Int64} {g n r f N j : Nat} {t : Nat → Int32} {Q : Option Value → am_H → Prop} (hr : r < 8) (hfN : f + N ≤ 40) (ht : ∀ i, i < N → S (8 + 1 * r) (f + i) = t i) (hf : wF (am_sub S 20) g n) (hc9 : w_cl (am_sub S 29)) (hc0 : w_cl (am_sub S 20)) (hj : j < 6)  (hg : (¬ (nI j) < 0 ∧ ¬ (S 20 4) ≤ (nI j)) ∧ (¬ (nI r) < 0 ∧ ¬ 8 ≤ (nI r)) ∧ (¬ ((nI N) < 1 ∨ 12 < (nI N))) ∧ ¬ ((S 17 r) = -1) ∧ (¬ (nI f) < 0 ∧ ¬ (nI N) < 0 ∧ ¬ (S 17 r) < (nI f) ∧ ¬ (S 17 r) - (nI f) < (nI N))) (x1 : ¬ (nI j) < 0 ∧ ¬ (S 20 4) ≤ (nI j) → ¬ (nI r) < 0 ∧ ¬ 8 ≤ (nI r) → ¬ ((nI N) < 1 ∨ 12 < (nI N)) → r < 8) (x2 : r < 8) (k1 : ∀ W7 : Nat → Nat → Int32, w_cl W7 → Q (some (.int (gb (fun v => w_ls g n t N 0 (am_u (am_sub S 20) 3 j (nI v))) 9 1 0))) (am_hh X (am_ovl (am_u S 5 12 0) 29 W7) L)) : am_mt (d + 9) 114 [.ref 5, .int (nI j), .int 1, .int (nI r), .int (nI f), .int (nI N)] (am_hh X S L) Q := by
  refine ax_in (ls := [some (.ref 5), some (.int (nI j)), some (.int 1), some (.int (nI r)), some (.int (nI f)), some (.int (nI N))]) rfl ?_
  refine ax_s (pc' := 1) (st' := [.ref 5]) rfl rfl rfl rfl ?_
  refine ax_get rfl (hh_5 _ _ _) rfl rfl rfl ?_
  show am_ex (d + 9) 114 4 [some (.ref 5), some (.int (nI j)), some (.int 1), some (.int (nI r)), some (.int (nI f)), some (.int (nI N))] [.ref 20] (am_hh X S L) _
  refine ax_s (pc' := 5) (st' := [.int (nI j), .ref 20]) rfl rfl rfl rfl ?_
  refine ax_call (vs := [.ref 20, .int (nI j)]) (rr := []) rfl rfl rfl ?_
  refine kw (am_hh_sub isW20 X S L) (am_hh_sub isW20 X S L).symm (fun _ => ct_hasParty (am_isW_k isW20 X S L)) ?_
  show am_ex (d + 9) 114 8 [some (.ref 5), some (.int (nI j)), some (.int 1), some (.int (nI r)), some (.int (nI f)), some (.int (nI N))] [.int (bI (decide (¬ (nI j) < 0 ∧ ¬ (S 20 4) ≤ (nI j))))] (am_hh X S L) _
  refine ax_pF rfl (fun c1 => ?_) (fun c1 => ?_)
  · refine ax_s (pc' := 40) (st' := [.int (-1000001)]) rfl rfl rfl rfl ?_
    refine ax_r rfl rfl rfl ?_
    first | exact absurd (hg.1) c1 | exact absurd c1 (hg.1) | exact absurd (hg.1) (ne_true_of_eq_false c1)
  · refine ax_s (pc' := 12) (st' := [.int 1]) rfl rfl rfl rfl ?_
    refine ax_s (pc' := 13) (st' := [.int 0, .int 1]) rfl rfl rfl rfl ?_
    refine ax_s (pc' := 14) (st' := [.int 4, .int 0, .int 1]) rfl rfl rfl rfl ?_
    refine ax_call (vs := [.int 1, .int 0, .int 4]) (rr := []) rfl rfl rfl ?_
    refine ct_isOutside ?_
    show am_ex (d + 9) 114 17 [some (.ref 5), some (.int (nI j)), some (.int 1), some (.int (nI r)), some (.int (nI f)), some (.int (nI N))] [.int 0] (am_hh X S L) _
    refine ax_if_ne rfl (fun c2 => False.elim (by revert c2; decide)) (fun c2 => ?_)
    refine ax_s (pc' := 21) (st' := [.int (nI r)]) rfl rfl rfl rfl ?_
    refine ax_call (vs := [.int (nI r)]) (rr := []) rfl rfl rfl ?_
    refine ct_isRow ?_
    show am_ex (d + 9) 114 24 [some (.ref 5), some (.int (nI j)), some (.int 1), some (.int (nI r)), some (.int (nI f)), some (.int (nI N))] [.int (bI (decide (¬ (nI r) < 0 ∧ ¬ 8 ≤ (nI r))))] (am_hh X S L) _
    refine ax_pF rfl (fun c3 => ?_) (fun c3 => ?_)
    · refine ax_s (pc' := 40) (st' := [.int (-1000001)]) rfl rfl rfl rfl ?_
      refine ax_r rfl rfl rfl ?_
      first | exact absurd (hg.2.1) c3 | exact absurd c3 (hg.2.1) | exact absurd (hg.2.1) (ne_true_of_eq_false c3)
    · refine ax_s (pc' := 29) (st' := [.int (nI N)]) rfl rfl rfl rfl ?_
      refine ax_s (pc' := 30) (st' := [.int 1, .int (nI N)]) rfl rfl rfl rfl ?_
      refine ax_s (pc' := 32) (st' := [.int 12, .int 1, .int (nI N)]) rfl rfl rfl rfl ?_
      refine ax_call (vs := [.int (nI N), .int 1, .int 12]) (rr := []) rfl rfl rfl ?_
      refine ct_isOutside ?_
      show am_ex (d + 9) 114 35 [some (.ref 5), some (.int (nI j)), some (.int 1), some (.int (nI r)), some (.int (nI f)), some (.int (nI N))] [.int (bI (decide ((nI N) < 1 ∨ 12 < (nI N))))] (am_hh X S L) _
      refine ax_pF rfl (fun c4 => ?_) (fun c4 => ?_)
      · refine ax_s (pc' := 42) (st' := [.ref 5]) rfl rfl rfl rfl ?_
        refine ax_get rfl (hh_5 _ _ _) rfl rfl rfl ?_
        show am_ex (d + 9) 114 45 [some (.ref 5), some (.int (nI j)), some (.int 1), some (.int (nI r)), some (.int (nI f)), some (.int (nI N))] [.ref 6] (am_hh X S L) _
        refine ax_s (pc' := 46) (st' := [.int (nI r), .ref 6]) rfl rfl rfl rfl ?_
        refine ax_call (vs := [.ref 6, .int (nI r)]) (rr := []) rfl rfl rfl ?_
        refine kt_isMissing rfl (x1 c1 c3 c4) ?_
        show am_ex (d + 9) 114 49 [some (.ref 5), some (.int (nI j)), some (.int 1), some (.int (nI r)), some (.int (nI f)), some (.int (nI N))] [.int (bI (decide ((S 17 r) = -1)))] (am_hh X S L) _
        refine ax_pF rfl (fun c5 => ?_) (fun c5 => ?_)
        · refine ax_s (pc' := 59) (st' := [.ref 5]) rfl rfl rfl rfl ?_
          refine ax_get rfl (hh_5 _ _ _) rfl rfl rfl ?_
          show am_ex (d + 9) 114 62 [some (.ref 5), some (.int (nI j)), some (.int 1), some (.int (nI r)), some (.int (nI f)), some (.int (nI N))] [.ref 6] (am_hh X S L) _
          refine ax_s (pc' := 63) (st' := [.int (nI r), .ref 6]) rfl rfl rfl rfl ?_
          refine ax_s (pc' := 65) (st' := [.int (nI f), .int (nI r), .ref 6]) rfl rfl rfl rfl ?_
          refine ax_s (pc' := 67) (st' := [.int (nI N), .int (nI f), .int (nI r), .ref 6]) rfl rfl rfl rfl ?_
          refine ax_call (vs := [.ref 6, .int (nI r), .int (nI f), .int (nI N)]) (rr := []) rfl rfl rfl ?_
          refine kt_hasPlaces rfl (x1 c1 c3 c4) ?_
          show am_ex (d + 9) 114 70 [some (.ref 5), some (.int (nI j)), some (.int 1), some (.int (nI r)), some (.int (nI f)), some (.int (nI N))] [.int (bI (decide (¬ (nI f) < 0 ∧ ¬ (nI N) < 0 ∧ ¬ (S 17 r) < (nI f) ∧ ¬ (S 17 r) - (nI f) < (nI N))))] (am_hh X S L) _
          refine ax_pT rfl (fun c6 => ?_) (fun c6 => ?_)
          · refine ax_s (pc' := 80) (st' := [.ref 5]) rfl rfl rfl rfl ?_
            refine ax_s (pc' := 81) (st' := [.ref 5, .ref 5]) rfl rfl rfl rfl ?_
            refine ax_get rfl (hh_5 _ _ _) rfl rfl rfl ?_
            show am_ex (d + 9) 114 84 [some (.ref 5), some (.int (nI j)), some (.int 1), some (.int (nI r)), some (.int (nI f)), some (.int (nI N))] [.ref 280, .ref 5] (am_hh X S L) _
            refine ax_s (pc' := 85) (st' := [.int (nI j), .ref 280, .ref 5]) rfl rfl rfl rfl ?_
            refine ax_s (pc' := 86) (st' := [.int 1, .int (nI j), .ref 280, .ref 5]) rfl rfl rfl rfl ?_
            refine ax_s (pc' := 87) (st' := [.ref 5, .int 1, .int (nI j), .ref 280, .ref 5]) rfl rfl rfl rfl ?_
            refine ax_get rfl (hh_5 _ _ _) rfl rfl rfl ?_
            show am_ex (d + 9) 114 90 [some (.ref 5), some (.int (nI j)), some (.int 1), some (.int (nI r)), some (.int (nI f)), some (.int (nI N))] [.ref 6, .int 1, .int (nI j), .ref 280, .ref 5] (am_hh X S L) _
            refine ax_get rfl (hh_6 _ _ _) rfl rfl rfl ?_
            show am_ex (d + 9) 114 93 [some (.ref 5), some (.int (nI j)), some (.int 1), some (.int (nI r)), some (.int (nI f)), some (.int (nI N))] [.ref 7, .int 1, .int (nI j), .ref 280, .ref 5] (am_hh X S L) _
            refine ax_s (pc' := 94) (st' := [.int (nI r), .ref 7, .int 1, .int (nI j), .ref 280, .ref 5]) rfl rfl rfl rfl ?_
            refine ax_qld (j := r) (b := (8 + 1 * r)) rfl (hh_7 _ _ _) rfl (by decide) rfl x2 (by decide) (if_pos x2) ?_
            refine ax_s (pc' := 97) (st' := [.int (nI f), .ref (8 + 1 * r), .int 1, .int (nI j), .ref 280, .ref 5]) rfl rfl rfl rfl ?_
            refine ax_s (pc' := 99) (st' := [.int (nI N), .int (nI f), .ref (8 + 1 * r), .int 1, .int (nI j), .ref 280, .ref 5]) rfl rfl rfl rfl ?_
            refine ax_call (vs := [.ref 280, .int (nI j), .int 1, .ref (8 + 1 * r), .int (nI f), .int (nI N)]) (rr := [.ref 5]) rfl rfl rfl ?_
            refine kt_guess1 hr hfN ht hf hc9 hc0 hj (fun W7 h7 => ?_)
            show am_ex (d + 9) 114 102 [some (.ref 5), some (.int (nI j)), some (.int 1), some (.int (nI r)), some (.int (nI f)), some (.int (nI N))] [.int (gb (fun v => w_ls g n t N 0 (am_u (am_sub S 20) 3 j (nI v))) 9 1 0), .ref 5] (am_hh X (am_ovl S 29 W7) L) _
            refine ax_call (vs := [.ref 5, .int (gb (fun v => w_ls g n t N 0 (am_u (am_sub S 20) 3 j (nI v))) 9 1 0)]) (rr := []) rfl rfl rfl ?_
            refine ax_in (ls := [some (.ref 5), some (.int (gb (fun v => w_ls g n t N 0 (am_u (am_sub S 20) 3 j (nI v))) 9 1 0))]) rfl ?_
            refine ax_s (pc' := 1) (st' := [.ref 5]) rfl rfl rfl rfl ?_
            refine ax_s (pc' := 2) (st' := [.int 0, .ref 5]) rfl rfl rfl rfl ?_
            refine ax_put rfl (hh_5 _ _ _) rfl rfl (show 12 + 1 ≤ _ from Nat.le_of_ble_eq_true rfl) rfl (am_hh_setO (i := 12) (v := 0) _ _ _ _ (by decide) rfl) ?_
            refine ax_s (pc' := 6) (st' := [.int (gb (fun v => w_ls g n t N 0 (am_u (am_sub S 20) 3 j (nI v))) 9 1 0)]) rfl rfl rfl rfl ?_
            refine ax_r rfl rfl rfl ?_
            show am_ex (d + 9) 114 105 [some (.ref 5), some (.int (nI j)), some (.int 1), some (.int (nI r)), some (.int (nI f)), some (.int (nI N))] [.int (gb (fun v => w_ls g n t N 0 (am_u (am_sub S 20) 3 j (nI v))) 9 1 0)] (am_hh X (am_ovl (am_u S 5 12 0) 29 W7) L) _
            refine ax_r rfl rfl rfl ?_
            exact k1 W7 h7
          · refine ax_s (pc' := 74) (st' := [.ref 5]) rfl rfl rfl rfl ?_
            refine ax_s (pc' := 75) (st' := [.int 2, .ref 5]) rfl rfl rfl rfl ?_
            refine ax_call (vs := [.ref 5, .int 2]) (rr := []) rfl rfl rfl ?_
            refine ax_in (ls := [some (.ref 5), some (.int 2)]) rfl ?_
            refine ax_s (pc' := 1) (st' := [.ref 5]) rfl rfl rfl rfl ?_
            refine ax_s (pc' := 2) (st' := [.int 2, .ref 5]) rfl rfl rfl rfl ?_
            refine ax_put rfl (hh_5 _ _ _) rfl rfl (show 12 + 1 ≤ _ from Nat.le_of_ble_eq_true rfl) rfl (am_hh_set _ _ _ 5 12 _ rfl) ?_
            refine ax_s (pc' := 8) (st' := [.int (-1000010)]) rfl rfl rfl rfl ?_
            refine ax_s (pc' := 9) (st' := [.int 2, .int (-1000010)]) rfl rfl rfl rfl ?_
            refine ax_s (pc' := 10) (st' := [.int (-1000012)]) rfl rfl rfl rfl ?_
            refine ax_r rfl rfl rfl ?_
            show am_ex (d + 9) 114 78 [some (.ref 5), some (.int (nI j)), some (.int 1), some (.int (nI r)), some (.int (nI f)), some (.int (nI N))] [.int (-1000012)] (am_hh X (am_u S 5 12 2) L) _
            refine ax_r rfl rfl rfl ?_
            first | exact absurd (hg.2.2.2.2) c6 | exact absurd c6 (hg.2.2.2.2) | exact absurd (hg.2.2.2.2) (ne_true_of_eq_false c6)
        · refine ax_s (pc' := 53) (st' := [.ref 5]) rfl rfl rfl rfl ?_
          refine ax_s (pc' := 54) (st' := [.int 1, .ref 5]) rfl rfl rfl rfl ?_
          refine ax_call (vs := [.ref 5, .int 1]) (rr := []) rfl rfl rfl ?_
          refine ax_in (ls := [some (.ref 5), some (.int 1)]) rfl ?_
          refine ax_s (pc' := 1) (st' := [.ref 5]) rfl rfl rfl rfl ?_
          refine ax_s (pc' := 2) (st' := [.int 1, .ref 5]) rfl rfl rfl rfl ?_
          refine ax_put rfl (hh_5 _ _ _) rfl rfl (show 12 + 1 ≤ _ from Nat.le_of_ble_eq_true rfl) rfl (am_hh_set _ _ _ 5 12 _ rfl) ?_
          refine ax_s (pc' := 8) (st' := [.int (-1000010)]) rfl rfl rfl rfl ?_
          refine ax_s (pc' := 9) (st' := [.int 1, .int (-1000010)]) rfl rfl rfl rfl ?_
          refine ax_s (pc' := 10) (st' := [.int (-1000011)]) rfl rfl rfl rfl ?_
          refine ax_r rfl rfl rfl ?_
          show am_ex (d + 9) 114 57 [some (.ref 5), some (.int (nI j)), some (.int 1), some (.int (nI r)), some (.int (nI f)), some (.int (nI N))] [.int (-1000011)] (am_hh X (am_u S 5 12 1) L) _
          refine ax_r rfl rfl rfl ?_
          first | exact absurd (hg.2.2.2.1) c5 | exact absurd c5 (hg.2.2.2.1) | exact absurd (hg.2.2.2.1) (ne_true_of_eq_false c5)
      · refine ax_s (pc' := 40) (st' := [.int (-1000001)]) rfl rfl rfl rfl ?_
        refine ax_r rfl rfl rfl ?_
        first | exact absurd (hg.2.2.1) c4 | exact absurd c4 (hg.2.2.1) | exact absurd (hg.2.2.1) (ne_true_of_eq_false c4)
theorem wv_m_who1 {d : Nat} {X : Nat × (Nat → Int32)} {S : Nat → Nat → Int32} {L : Nat → Int64} {g n r f N j : Nat} {t : Nat → Int32} {W : Nat → Nat → Int32} {Q : Option Value → am_H → Prop} (hR : mR W (am_u S 285 3 0) 293 g n) (hK : JK (am_u S 285 3 0)) (hr : r < 8) (hfN : f + N ≤ 40) (hf40 : f < 40) (ht : ∀ i, i < N → (am_u S 285 3 0) 288 (40 * r + f + i) = t i) (hj : j < 6)  (hg : (¬ (nI j) < 0 ∧ ¬ (S 285 7) - 1 < (nI j)) ∧ (¬ (nI r) < 0 ∧ ¬ 7 < (nI r)) ∧ (¬ (nI N) < 1 ∧ ¬ 12 < (nI N)) ∧ 0 ≤ (S 287 r) ∧ (¬ (nI f) < 0 ∧ ¬ (nI N) < 0 ∧ ¬ (S 287 r) < (nI N) ∧ ¬ (S 287 r) - (nI N) < (nI f))) (x1 : ¬ (nI j) < 0 ∧ ¬ (S 285 7) - 1 < (nI j) → ¬ (nI r) < 0 ∧ ¬ 7 < (nI r) → ¬ (nI N) < 1 ∧ ¬ 12 < (nI N) → r < 8) (k1 : ∀ S7 : Nat → Nat → Int32, F8 (am_u S 285 3 0) S7 → Q (some (.int (gb (fun v => w_ls g n t N 0 (am_u W 3 j (nI v))) 9 1 0))) (am_hh X S7 L)) : am_mt (d + 10) 212 [.ref 285, .int (nI j), .int 1, .int (nI r), .int (nI f), .int (nI N)] (am_hh X S L) Q := by
  refine ax_in (ls := [some (.ref 285), some (.int (nI j)), some (.int 1), some (.int (nI r)), some (.int (nI f)), some (.int (nI N)), none]) rfl ?_
  refine ax_s (pc' := 1) (st' := [.ref 285]) rfl rfl rfl rfl ?_
  refine ax_s (pc' := 2) (st' := [.int (nI j), .ref 285]) rfl rfl rfl rfl ?_
  refine ax_call (vs := [.ref 285, .int (nI j)]) (rr := []) rfl rfl rfl ?_
  refine mt_isParty  ?_
  show am_ex (d + 10) 212 5 [some (.ref 285), some (.int (nI j)), some (.int 1), some (.int (nI r)), some (.int (nI f)), some (.int (nI N)), none] [.int (bI (decide (¬ (nI j) < 0 ∧ ¬ (S 285 7) - 1 < (nI j))))] (am_hh X S L) _
  refine ax_pF rfl (fun c1 => ?_) (fun c1 => ?_)
  · refine ax_s (pc' := 38) (st' := [.int (-1000001)]) rfl rfl rfl rfl ?_
    refine ax_r rfl rfl rfl ?_
    first | exact absurd (hg.1) c1 | exact absurd c1 (hg.1) | exact absurd (hg.1) (ne_true_of_eq_false c1)
  · refine ax_s (pc' := 9) (st' := [.int 1]) rfl rfl rfl rfl ?_
    refine ax_s (pc' := 10) (st' := [.int 0, .int 1]) rfl rfl rfl rfl ?_
    refine ax_s (pc' := 11) (st' := [.int 4, .int 0, .int 1]) rfl rfl rfl rfl ?_
    refine ax_call (vs := [.int 1, .int 0, .int 4]) (rr := []) rfl rfl rfl ?_
    refine mt_in ?_
    show am_ex (d + 10) 212 14 [some (.ref 285), some (.int (nI j)), some (.int 1), some (.int (nI r)), some (.int (nI f)), some (.int (nI N)), none] [.int 1] (am_hh X S L) _
    refine ax_if_eq rfl (fun c2 => False.elim (by revert c2; decide)) (fun c2 => ?_)
    refine ax_s (pc' := 18) (st' := [.ref 285]) rfl rfl rfl rfl ?_
    refine ax_s (pc' := 19) (st' := [.int (nI r), .ref 285]) rfl rfl rfl rfl ?_
    refine ax_call (vs := [.ref 285, .int (nI r)]) (rr := []) rfl rfl rfl ?_
    refine mt_isRow ?_
    show am_ex (d + 10) 212 22 [some (.ref 285), some (.int (nI j)), some (.int 1), some (.int (nI r)), some (.int (nI f)), some (.int (nI N)), none] [.int (bI (decide (¬ (nI r) < 0 ∧ ¬ 7 < (nI r))))] (am_hh X S L) _
    refine ax_pF rfl (fun c3 => ?_) (fun c3 => ?_)
    · refine ax_s (pc' := 38) (st' := [.int (-1000001)]) rfl rfl rfl rfl ?_
      refine ax_r rfl rfl rfl ?_
      first | exact absurd (hg.2.1) c3 | exact absurd c3 (hg.2.1) | exact absurd (hg.2.1) (ne_true_of_eq_false c3)
    · refine ax_s (pc' := 27) (st' := [.int (nI N)]) rfl rfl rfl rfl ?_
      refine ax_s (pc' := 28) (st' := [.int 1, .int (nI N)]) rfl rfl rfl rfl ?_
      refine ax_s (pc' := 30) (st' := [.int 12, .int 1, .int (nI N)]) rfl rfl rfl rfl ?_
      refine ax_call (vs := [.int (nI N), .int 1, .int 12]) (rr := []) rfl rfl rfl ?_
      refine mt_in ?_
      show am_ex (d + 10) 212 33 [some (.ref 285), some (.int (nI j)), some (.int 1), some (.int (nI r)), some (.int (nI f)), some (.int (nI N)), none] [.int (bI (decide (¬ (nI N) < 1 ∧ ¬ 12 < (nI N))))] (am_hh X S L) _
      refine ax_pT rfl (fun c4 => ?_) (fun c4 => ?_)
      · refine ax_s (pc' := 40) (st' := [.ref 285]) rfl rfl rfl rfl ?_
        refine ax_get rfl (hh_285 _ _ _) rfl rfl rfl ?_
        show am_ex (d + 10) 212 43 [some (.ref 285), some (.int (nI j)), some (.int 1), some (.int (nI r)), some (.int (nI f)), some (.int (nI N)), none] [.ref 287] (am_hh X S L) _
        refine ax_s (pc' := 44) (st' := [.int (nI r), .ref 287]) rfl rfl rfl rfl ?_
        refine ax_ald (j := r) (v := (S 287 r)) rfl (hh_287 _ _ _) rfl rfl (x1 c1 c3 c4) (by decide) rfl ?_
        refine ax_if_ge rfl (fun c5 => ?_) (fun c5 => ?_)
        · refine ax_s (pc' := 56) (st' := [.int (nI f)]) rfl rfl rfl rfl ?_
          refine ax_s (pc' := 58) (st' := [.int (nI N), .int (nI f)]) rfl rfl rfl rfl ?_
          refine ax_s (pc' := 59) (st' := [.ref 285, .int (nI N), .int (nI f)]) rfl rfl rfl rfl ?_
          refine ax_get rfl (hh_285 _ _ _) rfl rfl rfl ?_
          show am_ex (d + 10) 212 62 [some (.ref 285), some (.int (nI j)), some (.int 1), some (.int (nI r)), some (.int (nI f)), some (.int (nI N)), none] [.ref 287, .int (nI N), .int (nI f)] (am_hh X S L) _
          refine ax_s (pc' := 63) (st' := [.int (nI r), .ref 287, .int (nI N), .int (nI f)]) rfl rfl rfl rfl ?_
          refine ax_ald (j := r) (v := (S 287 r)) rfl (hh_287 _ _ _) rfl rfl (x1 c1 c3 c4) (by decide) rfl ?_
          refine ax_call (vs := [.int (nI f), .int (nI N), .int (S 287 r)]) (rr := []) rfl rfl rfl ?_
          refine mt_isPart ?_
          show am_ex (d + 10) 212 67 [some (.ref 285), some (.int (nI j)), some (.int 1), some (.int (nI r)), some (.int (nI f)), some (.int (nI N)), none] [.int (bI (decide (¬ (nI f) < 0 ∧ ¬ (nI N) < 0 ∧ ¬ (S 287 r) < (nI N) ∧ ¬ (S 287 r) - (nI N) < (nI f))))] (am_hh X S L) _
          refine ax_pT rfl (fun c6 => ?_) (fun c6 => ?_)
          · refine ax_s (pc' := 77) (st' := [.ref 285]) rfl rfl rfl rfl ?_
            refine ax_s (pc' := 78) (st' := [.int 0, .ref 285]) rfl rfl rfl rfl ?_
            refine ax_put rfl (hh_285 _ _ _) rfl rfl (show 3 + 1 ≤ _ from Nat.le_of_ble_eq_true rfl) rfl (am_hh_set _ _ _ 285 3 _ rfl) ?_
            refine ax_s (pc' := 83) (st' := [.int 40]) rfl rfl rfl rfl ?_
            refine ax_s (pc' := 84) (st' := [.int (nI r), .int 40]) rfl rfl rfl rfl ?_
            refine ax_s (pc' := 85) (st' := [.int (40 * (nI r))]) rfl rfl rfl rfl ?_
            refine ax_s (pc' := 87) (st' := [.int (nI f), .int (40 * (nI r))]) rfl rfl rfl rfl ?_
            refine ax_s (pc' := 88) (st' := [.int ((40 * (nI r)) + (nI f))]) rfl rfl rfl rfl ?_
            refine ax_s (pc' := 90) (ls' := [some (.ref 285), some (.int (nI j)), some (.int 1), some (.int (nI r)), some (.int (nI f)), some (.int (nI N)), some (.int ((40 * (nI r)) + (nI f)))]) (st' := []) rfl rfl rfl rfl ?_
            refine ax_s (pc' := 91) (st' := [.int 1]) rfl rfl rfl rfl ?_
            refine ax_s (pc' := 131) (ls' := [some (.ref 285), some (.int (nI j)), some (.int 1), some (.int (nI r)), some (.int (nI f)), some (.int (nI N)), some (.int ((40 * (nI r)) + (nI f)))]) (st' := []) (h1 := (am_hh X (am_u S 285 3 0) L)) rfl rfl rfl rfl ?_
            refine ax_s (pc' := 132) (st' := [.ref 285]) rfl rfl rfl rfl ?_
            refine ax_s (pc' := 133) (st' := [.ref 285, .ref 285]) rfl rfl rfl rfl ?_
            refine ax_get rfl (hh_285 _ _ _) rfl rfl rfl ?_
            show am_ex (d + 10) 212 136 [some (.ref 285), some (.int (nI j)), some (.int 1), some (.int (nI r)), some (.int (nI f)), some (.int (nI N)), some (.int ((40 * (nI r)) + (nI f)))] [.ref 291, .ref 285] (am_hh X (am_u S 285 3 0) L) _
            refine ax_s (pc' := 137) (st' := [.int (nI j), .ref 291, .ref 285]) rfl rfl rfl rfl ?_
            refine ax_s (pc' := 139) (st' := [.int 9, .int (nI j), .ref 291, .ref 285]) rfl rfl rfl rfl ?_
            refine ax_s (pc' := 141) (st' := [.int ((40 * (nI r)) + (nI f)), .int 9, .int (nI j), .ref 291, .ref 285]) rfl rfl rfl rfl ?_
            refine ax_s (pc' := 143) (st' := [.int (nI N), .int ((40 * (nI r)) + (nI f)), .int 9, .int (nI j), .ref 291, .ref 285]) rfl rfl rfl rfl ?_
            refine ax_call (vs := [.ref 285, .ref 291, .int (nI j), .int 9, .int ((40 * (nI r)) + (nI f)), .int (nI N)]) (rr := []) rfl rfl rfl ?_
            refine mt_byRow3 hR hK hr hfN ht (at_div hr hf40) (at_rem hr hf40) hj (fun S7 h7 => ?_)
            show am_ex (d + 10) 212 146 [some (.ref 285), some (.int (nI j)), some (.int 1), some (.int (nI r)), some (.int (nI f)), some (.int (nI N)), some (.int ((40 * (nI r)) + (nI f)))] [.int (gb (fun v => w_ls g n t N 0 (am_u W 3 j (nI v))) 9 1 0)] (am_hh X S7 L) _
            refine ax_r rfl rfl rfl ?_
            exact k1 S7 h7
          · refine ax_s (pc' := 71) (st' := [.ref 285]) rfl rfl rfl rfl ?_
            refine ax_s (pc' := 72) (st' := [.int 2, .ref 285]) rfl rfl rfl rfl ?_
            refine ax_call (vs := [.ref 285, .int 2]) (rr := []) rfl rfl rfl ?_
            refine ax_in (ls := [some (.ref 285), some (.int 2)]) rfl ?_
            refine ax_s (pc' := 1) (st' := [.ref 285]) rfl rfl rfl rfl ?_
            refine ax_s (pc' := 2) (st' := [.int 2, .ref 285]) rfl rfl rfl rfl ?_
            refine ax_put rfl (hh_285 _ _ _) rfl rfl (show 3 + 1 ≤ _ from Nat.le_of_ble_eq_true rfl) rfl (am_hh_set _ _ _ 285 3 _ rfl) ?_
            refine ax_s (pc' := 7) (st' := [.int (-1000010)]) rfl rfl rfl rfl ?_
            refine ax_s (pc' := 8) (st' := [.int 2, .int (-1000010)]) rfl rfl rfl rfl ?_
            refine ax_s (pc' := 9) (st' := [.int (-1000012)]) rfl rfl rfl rfl ?_
            refine ax_r rfl rfl rfl ?_
            show am_ex (d + 10) 212 75 [some (.ref 285), some (.int (nI j)), some (.int 1), some (.int (nI r)), some (.int (nI f)), some (.int (nI N)), none] [.int (-1000012)] (am_hh X (am_u S 285 3 2) L) _
            refine ax_r rfl rfl rfl ?_
            first | exact absurd (hg.2.2.2.2) c6 | exact absurd c6 (hg.2.2.2.2) | exact absurd (hg.2.2.2.2) (ne_true_of_eq_false c6)
        · refine ax_s (pc' := 49) (st' := [.ref 285]) rfl rfl rfl rfl ?_
          refine ax_s (pc' := 50) (st' := [.int 1, .ref 285]) rfl rfl rfl rfl ?_
          refine ax_call (vs := [.ref 285, .int 1]) (rr := []) rfl rfl rfl ?_
          refine ax_in (ls := [some (.ref 285), some (.int 1)]) rfl ?_
          refine ax_s (pc' := 1) (st' := [.ref 285]) rfl rfl rfl rfl ?_
          refine ax_s (pc' := 2) (st' := [.int 1, .ref 285]) rfl rfl rfl rfl ?_
          refine ax_put rfl (hh_285 _ _ _) rfl rfl (show 3 + 1 ≤ _ from Nat.le_of_ble_eq_true rfl) rfl (am_hh_set _ _ _ 285 3 _ rfl) ?_
          refine ax_s (pc' := 7) (st' := [.int (-1000010)]) rfl rfl rfl rfl ?_
          refine ax_s (pc' := 8) (st' := [.int 1, .int (-1000010)]) rfl rfl rfl rfl ?_
          refine ax_s (pc' := 9) (st' := [.int (-1000011)]) rfl rfl rfl rfl ?_
          refine ax_r rfl rfl rfl ?_
          show am_ex (d + 10) 212 53 [some (.ref 285), some (.int (nI j)), some (.int 1), some (.int (nI r)), some (.int (nI f)), some (.int (nI N)), none] [.int (-1000011)] (am_hh X (am_u S 285 3 1) L) _
          refine ax_r rfl rfl rfl ?_
          first | exact absurd (hg.2.2.2.1) c5 | exact absurd c5 (hg.2.2.2.1) | exact absurd (hg.2.2.2.1) (ne_true_of_eq_false c5)
      · refine ax_s (pc' := 38) (st' := [.int (-1000001)]) rfl rfl rfl rfl ?_
        refine ax_r rfl rfl rfl ?_
        first | exact absurd (hg.2.2.1) c4 | exact absurd c4 (hg.2.2.1) | exact absurd (hg.2.2.1) (ne_true_of_eq_false c4)
theorem wv_k_who2 {d : Nat} {X : Nat × (Nat → Int32)} {S : Nat → Nat → Int32} {L : Nat → Int64} {g n r f N j : Nat} {t : Nat → Int32} {Q : Option Value → am_H → Prop} (hr : r < 8) (hfN : f + N ≤ 40) (ht : ∀ i, i < N → S (8 + 1 * r) (f + i) = t i) (hf : wF (am_sub S 20) g n) (hc9 : w_cl (am_sub S 29)) (hc0 : w_cl (am_sub S 20)) (hj : j < 6)  (hg : (¬ (nI j) < 0 ∧ ¬ (S 20 4) ≤ (nI j)) ∧ (¬ (nI r) < 0 ∧ ¬ 8 ≤ (nI r)) ∧ (¬ ((nI N) < 1 ∨ 12 < (nI N))) ∧ ¬ ((S 17 r) = -1) ∧ (¬ (nI f) < 0 ∧ ¬ (nI N) < 0 ∧ ¬ (S 17 r) < (nI f) ∧ ¬ (S 17 r) - (nI f) < (nI N))) (x1 : ¬ (nI j) < 0 ∧ ¬ (S 20 4) ≤ (nI j) → ¬ (nI r) < 0 ∧ ¬ 8 ≤ (nI r) → ¬ ((nI N) < 1 ∨ 12 < (nI N)) → r < 8) (x2 : r < 8) (k1 : ∀ W7 : Nat → Nat → Int32, w_cl W7 → Q (some (.int (gb (fun v => w_ls g n t N 0 (am_u (am_sub S 20) 4 j (nI v))) 4 1 0))) (am_hh X (am_ovl (am_u S 5 12 0) 29 W7) L)) : am_mt (d + 9) 114 [.ref 5, .int (nI j), .int 2, .int (nI r), .int (nI f), .int (nI N)] (am_hh X S L) Q := by
  refine ax_in (ls := [some (.ref 5), some (.int (nI j)), some (.int 2), some (.int (nI r)), some (.int (nI f)), some (.int (nI N))]) rfl ?_
  refine ax_s (pc' := 1) (st' := [.ref 5]) rfl rfl rfl rfl ?_
  refine ax_get rfl (hh_5 _ _ _) rfl rfl rfl ?_
  show am_ex (d + 9) 114 4 [some (.ref 5), some (.int (nI j)), some (.int 2), some (.int (nI r)), some (.int (nI f)), some (.int (nI N))] [.ref 20] (am_hh X S L) _
  refine ax_s (pc' := 5) (st' := [.int (nI j), .ref 20]) rfl rfl rfl rfl ?_
  refine ax_call (vs := [.ref 20, .int (nI j)]) (rr := []) rfl rfl rfl ?_
  refine kw (am_hh_sub isW20 X S L) (am_hh_sub isW20 X S L).symm (fun _ => ct_hasParty (am_isW_k isW20 X S L)) ?_
  show am_ex (d + 9) 114 8 [some (.ref 5), some (.int (nI j)), some (.int 2), some (.int (nI r)), some (.int (nI f)), some (.int (nI N))] [.int (bI (decide (¬ (nI j) < 0 ∧ ¬ (S 20 4) ≤ (nI j))))] (am_hh X S L) _
  refine ax_pF rfl (fun c1 => ?_) (fun c1 => ?_)
  · refine ax_s (pc' := 40) (st' := [.int (-1000001)]) rfl rfl rfl rfl ?_
    refine ax_r rfl rfl rfl ?_
    first | exact absurd (hg.1) c1 | exact absurd c1 (hg.1) | exact absurd (hg.1) (ne_true_of_eq_false c1)
  · refine ax_s (pc' := 12) (st' := [.int 2]) rfl rfl rfl rfl ?_
    refine ax_s (pc' := 13) (st' := [.int 0, .int 2]) rfl rfl rfl rfl ?_
    refine ax_s (pc' := 14) (st' := [.int 4, .int 0, .int 2]) rfl rfl rfl rfl ?_
    refine ax_call (vs := [.int 2, .int 0, .int 4]) (rr := []) rfl rfl rfl ?_
    refine ct_isOutside ?_
    show am_ex (d + 9) 114 17 [some (.ref 5), some (.int (nI j)), some (.int 2), some (.int (nI r)), some (.int (nI f)), some (.int (nI N))] [.int 0] (am_hh X S L) _
    refine ax_if_ne rfl (fun c2 => False.elim (by revert c2; decide)) (fun c2 => ?_)
    refine ax_s (pc' := 21) (st' := [.int (nI r)]) rfl rfl rfl rfl ?_
    refine ax_call (vs := [.int (nI r)]) (rr := []) rfl rfl rfl ?_
    refine ct_isRow ?_
    show am_ex (d + 9) 114 24 [some (.ref 5), some (.int (nI j)), some (.int 2), some (.int (nI r)), some (.int (nI f)), some (.int (nI N))] [.int (bI (decide (¬ (nI r) < 0 ∧ ¬ 8 ≤ (nI r))))] (am_hh X S L) _
    refine ax_pF rfl (fun c3 => ?_) (fun c3 => ?_)
    · refine ax_s (pc' := 40) (st' := [.int (-1000001)]) rfl rfl rfl rfl ?_
      refine ax_r rfl rfl rfl ?_
      first | exact absurd (hg.2.1) c3 | exact absurd c3 (hg.2.1) | exact absurd (hg.2.1) (ne_true_of_eq_false c3)
    · refine ax_s (pc' := 29) (st' := [.int (nI N)]) rfl rfl rfl rfl ?_
      refine ax_s (pc' := 30) (st' := [.int 1, .int (nI N)]) rfl rfl rfl rfl ?_
      refine ax_s (pc' := 32) (st' := [.int 12, .int 1, .int (nI N)]) rfl rfl rfl rfl ?_
      refine ax_call (vs := [.int (nI N), .int 1, .int 12]) (rr := []) rfl rfl rfl ?_
      refine ct_isOutside ?_
      show am_ex (d + 9) 114 35 [some (.ref 5), some (.int (nI j)), some (.int 2), some (.int (nI r)), some (.int (nI f)), some (.int (nI N))] [.int (bI (decide ((nI N) < 1 ∨ 12 < (nI N))))] (am_hh X S L) _
      refine ax_pF rfl (fun c4 => ?_) (fun c4 => ?_)
      · refine ax_s (pc' := 42) (st' := [.ref 5]) rfl rfl rfl rfl ?_
        refine ax_get rfl (hh_5 _ _ _) rfl rfl rfl ?_
        show am_ex (d + 9) 114 45 [some (.ref 5), some (.int (nI j)), some (.int 2), some (.int (nI r)), some (.int (nI f)), some (.int (nI N))] [.ref 6] (am_hh X S L) _
        refine ax_s (pc' := 46) (st' := [.int (nI r), .ref 6]) rfl rfl rfl rfl ?_
        refine ax_call (vs := [.ref 6, .int (nI r)]) (rr := []) rfl rfl rfl ?_
        refine kt_isMissing rfl (x1 c1 c3 c4) ?_
        show am_ex (d + 9) 114 49 [some (.ref 5), some (.int (nI j)), some (.int 2), some (.int (nI r)), some (.int (nI f)), some (.int (nI N))] [.int (bI (decide ((S 17 r) = -1)))] (am_hh X S L) _
        refine ax_pF rfl (fun c5 => ?_) (fun c5 => ?_)
        · refine ax_s (pc' := 59) (st' := [.ref 5]) rfl rfl rfl rfl ?_
          refine ax_get rfl (hh_5 _ _ _) rfl rfl rfl ?_
          show am_ex (d + 9) 114 62 [some (.ref 5), some (.int (nI j)), some (.int 2), some (.int (nI r)), some (.int (nI f)), some (.int (nI N))] [.ref 6] (am_hh X S L) _
          refine ax_s (pc' := 63) (st' := [.int (nI r), .ref 6]) rfl rfl rfl rfl ?_
          refine ax_s (pc' := 65) (st' := [.int (nI f), .int (nI r), .ref 6]) rfl rfl rfl rfl ?_
          refine ax_s (pc' := 67) (st' := [.int (nI N), .int (nI f), .int (nI r), .ref 6]) rfl rfl rfl rfl ?_
          refine ax_call (vs := [.ref 6, .int (nI r), .int (nI f), .int (nI N)]) (rr := []) rfl rfl rfl ?_
          refine kt_hasPlaces rfl (x1 c1 c3 c4) ?_
          show am_ex (d + 9) 114 70 [some (.ref 5), some (.int (nI j)), some (.int 2), some (.int (nI r)), some (.int (nI f)), some (.int (nI N))] [.int (bI (decide (¬ (nI f) < 0 ∧ ¬ (nI N) < 0 ∧ ¬ (S 17 r) < (nI f) ∧ ¬ (S 17 r) - (nI f) < (nI N))))] (am_hh X S L) _
          refine ax_pT rfl (fun c6 => ?_) (fun c6 => ?_)
          · refine ax_s (pc' := 80) (st' := [.ref 5]) rfl rfl rfl rfl ?_
            refine ax_s (pc' := 81) (st' := [.ref 5, .ref 5]) rfl rfl rfl rfl ?_
            refine ax_get rfl (hh_5 _ _ _) rfl rfl rfl ?_
            show am_ex (d + 9) 114 84 [some (.ref 5), some (.int (nI j)), some (.int 2), some (.int (nI r)), some (.int (nI f)), some (.int (nI N))] [.ref 280, .ref 5] (am_hh X S L) _
            refine ax_s (pc' := 85) (st' := [.int (nI j), .ref 280, .ref 5]) rfl rfl rfl rfl ?_
            refine ax_s (pc' := 86) (st' := [.int 2, .int (nI j), .ref 280, .ref 5]) rfl rfl rfl rfl ?_
            refine ax_s (pc' := 87) (st' := [.ref 5, .int 2, .int (nI j), .ref 280, .ref 5]) rfl rfl rfl rfl ?_
            refine ax_get rfl (hh_5 _ _ _) rfl rfl rfl ?_
            show am_ex (d + 9) 114 90 [some (.ref 5), some (.int (nI j)), some (.int 2), some (.int (nI r)), some (.int (nI f)), some (.int (nI N))] [.ref 6, .int 2, .int (nI j), .ref 280, .ref 5] (am_hh X S L) _
            refine ax_get rfl (hh_6 _ _ _) rfl rfl rfl ?_
            show am_ex (d + 9) 114 93 [some (.ref 5), some (.int (nI j)), some (.int 2), some (.int (nI r)), some (.int (nI f)), some (.int (nI N))] [.ref 7, .int 2, .int (nI j), .ref 280, .ref 5] (am_hh X S L) _
            refine ax_s (pc' := 94) (st' := [.int (nI r), .ref 7, .int 2, .int (nI j), .ref 280, .ref 5]) rfl rfl rfl rfl ?_
            refine ax_qld (j := r) (b := (8 + 1 * r)) rfl (hh_7 _ _ _) rfl (by decide) rfl x2 (by decide) (if_pos x2) ?_
            refine ax_s (pc' := 97) (st' := [.int (nI f), .ref (8 + 1 * r), .int 2, .int (nI j), .ref 280, .ref 5]) rfl rfl rfl rfl ?_
            refine ax_s (pc' := 99) (st' := [.int (nI N), .int (nI f), .ref (8 + 1 * r), .int 2, .int (nI j), .ref 280, .ref 5]) rfl rfl rfl rfl ?_
            refine ax_call (vs := [.ref 280, .int (nI j), .int 2, .ref (8 + 1 * r), .int (nI f), .int (nI N)]) (rr := [.ref 5]) rfl rfl rfl ?_
            refine kt_guess2 hr hfN ht hf hc9 hc0 hj (fun W7 h7 => ?_)
            show am_ex (d + 9) 114 102 [some (.ref 5), some (.int (nI j)), some (.int 2), some (.int (nI r)), some (.int (nI f)), some (.int (nI N))] [.int (gb (fun v => w_ls g n t N 0 (am_u (am_sub S 20) 4 j (nI v))) 4 1 0), .ref 5] (am_hh X (am_ovl S 29 W7) L) _
            refine ax_call (vs := [.ref 5, .int (gb (fun v => w_ls g n t N 0 (am_u (am_sub S 20) 4 j (nI v))) 4 1 0)]) (rr := []) rfl rfl rfl ?_
            refine ax_in (ls := [some (.ref 5), some (.int (gb (fun v => w_ls g n t N 0 (am_u (am_sub S 20) 4 j (nI v))) 4 1 0))]) rfl ?_
            refine ax_s (pc' := 1) (st' := [.ref 5]) rfl rfl rfl rfl ?_
            refine ax_s (pc' := 2) (st' := [.int 0, .ref 5]) rfl rfl rfl rfl ?_
            refine ax_put rfl (hh_5 _ _ _) rfl rfl (show 12 + 1 ≤ _ from Nat.le_of_ble_eq_true rfl) rfl (am_hh_setO (i := 12) (v := 0) _ _ _ _ (by decide) rfl) ?_
            refine ax_s (pc' := 6) (st' := [.int (gb (fun v => w_ls g n t N 0 (am_u (am_sub S 20) 4 j (nI v))) 4 1 0)]) rfl rfl rfl rfl ?_
            refine ax_r rfl rfl rfl ?_
            show am_ex (d + 9) 114 105 [some (.ref 5), some (.int (nI j)), some (.int 2), some (.int (nI r)), some (.int (nI f)), some (.int (nI N))] [.int (gb (fun v => w_ls g n t N 0 (am_u (am_sub S 20) 4 j (nI v))) 4 1 0)] (am_hh X (am_ovl (am_u S 5 12 0) 29 W7) L) _
            refine ax_r rfl rfl rfl ?_
            exact k1 W7 h7
          · refine ax_s (pc' := 74) (st' := [.ref 5]) rfl rfl rfl rfl ?_
            refine ax_s (pc' := 75) (st' := [.int 2, .ref 5]) rfl rfl rfl rfl ?_
            refine ax_call (vs := [.ref 5, .int 2]) (rr := []) rfl rfl rfl ?_
            refine ax_in (ls := [some (.ref 5), some (.int 2)]) rfl ?_
            refine ax_s (pc' := 1) (st' := [.ref 5]) rfl rfl rfl rfl ?_
            refine ax_s (pc' := 2) (st' := [.int 2, .ref 5]) rfl rfl rfl rfl ?_
            refine ax_put rfl (hh_5 _ _ _) rfl rfl (show 12 + 1 ≤ _ from Nat.le_of_ble_eq_true rfl) rfl (am_hh_set _ _ _ 5 12 _ rfl) ?_
            refine ax_s (pc' := 8) (st' := [.int (-1000010)]) rfl rfl rfl rfl ?_
            refine ax_s (pc' := 9) (st' := [.int 2, .int (-1000010)]) rfl rfl rfl rfl ?_
            refine ax_s (pc' := 10) (st' := [.int (-1000012)]) rfl rfl rfl rfl ?_
            refine ax_r rfl rfl rfl ?_
            show am_ex (d + 9) 114 78 [some (.ref 5), some (.int (nI j)), some (.int 2), some (.int (nI r)), some (.int (nI f)), some (.int (nI N))] [.int (-1000012)] (am_hh X (am_u S 5 12 2) L) _
            refine ax_r rfl rfl rfl ?_
            first | exact absurd (hg.2.2.2.2) c6 | exact absurd c6 (hg.2.2.2.2) | exact absurd (hg.2.2.2.2) (ne_true_of_eq_false c6)
        · refine ax_s (pc' := 53) (st' := [.ref 5]) rfl rfl rfl rfl ?_
          refine ax_s (pc' := 54) (st' := [.int 1, .ref 5]) rfl rfl rfl rfl ?_
          refine ax_call (vs := [.ref 5, .int 1]) (rr := []) rfl rfl rfl ?_
          refine ax_in (ls := [some (.ref 5), some (.int 1)]) rfl ?_
          refine ax_s (pc' := 1) (st' := [.ref 5]) rfl rfl rfl rfl ?_
          refine ax_s (pc' := 2) (st' := [.int 1, .ref 5]) rfl rfl rfl rfl ?_
          refine ax_put rfl (hh_5 _ _ _) rfl rfl (show 12 + 1 ≤ _ from Nat.le_of_ble_eq_true rfl) rfl (am_hh_set _ _ _ 5 12 _ rfl) ?_
          refine ax_s (pc' := 8) (st' := [.int (-1000010)]) rfl rfl rfl rfl ?_
          refine ax_s (pc' := 9) (st' := [.int 1, .int (-1000010)]) rfl rfl rfl rfl ?_
          refine ax_s (pc' := 10) (st' := [.int (-1000011)]) rfl rfl rfl rfl ?_
          refine ax_r rfl rfl rfl ?_
          show am_ex (d + 9) 114 57 [some (.ref 5), some (.int (nI j)), some (.int 2), some (.int (nI r)), some (.int (nI f)), some (.int (nI N))] [.int (-1000011)] (am_hh X (am_u S 5 12 1) L) _
          refine ax_r rfl rfl rfl ?_
          first | exact absurd (hg.2.2.2.1) c5 | exact absurd c5 (hg.2.2.2.1) | exact absurd (hg.2.2.2.1) (ne_true_of_eq_false c5)
      · refine ax_s (pc' := 40) (st' := [.int (-1000001)]) rfl rfl rfl rfl ?_
        refine ax_r rfl rfl rfl ?_
        first | exact absurd (hg.2.2.1) c4 | exact absurd c4 (hg.2.2.1) | exact absurd (hg.2.2.1) (ne_true_of_eq_false c4)
theorem wv_m_who2 {d : Nat} {X : Nat × (Nat → Int32)} {S : Nat → Nat → Int32} {L : Nat → Int64} {g n r f N j : Nat} {t : Nat → Int32} {W : Nat → Nat → Int32} {Q : Option Value → am_H → Prop} (hR : mR W (am_u S 285 3 0) 293 g n) (hK : JK (am_u S 285 3 0)) (hr : r < 8) (hfN : f + N ≤ 40) (hf40 : f < 40) (ht : ∀ i, i < N → (am_u S 285 3 0) 288 (40 * r + f + i) = t i) (hj : j < 6)  (hg : (¬ (nI j) < 0 ∧ ¬ (S 285 7) - 1 < (nI j)) ∧ (¬ (nI r) < 0 ∧ ¬ 7 < (nI r)) ∧ (¬ (nI N) < 1 ∧ ¬ 12 < (nI N)) ∧ 0 ≤ (S 287 r) ∧ (¬ (nI f) < 0 ∧ ¬ (nI N) < 0 ∧ ¬ (S 287 r) < (nI N) ∧ ¬ (S 287 r) - (nI N) < (nI f))) (x1 : ¬ (nI j) < 0 ∧ ¬ (S 285 7) - 1 < (nI j) → ¬ (nI r) < 0 ∧ ¬ 7 < (nI r) → ¬ (nI N) < 1 ∧ ¬ 12 < (nI N) → r < 8) (k1 : ∀ S7 : Nat → Nat → Int32, F8 (am_u S 285 3 0) S7 → Q (some (.int (gb (fun v => w_ls g n t N 0 (am_u W 4 j (nI v))) 4 1 0))) (am_hh X S7 L)) : am_mt (d + 10) 212 [.ref 285, .int (nI j), .int 2, .int (nI r), .int (nI f), .int (nI N)] (am_hh X S L) Q := by
  refine ax_in (ls := [some (.ref 285), some (.int (nI j)), some (.int 2), some (.int (nI r)), some (.int (nI f)), some (.int (nI N)), none]) rfl ?_
  refine ax_s (pc' := 1) (st' := [.ref 285]) rfl rfl rfl rfl ?_
  refine ax_s (pc' := 2) (st' := [.int (nI j), .ref 285]) rfl rfl rfl rfl ?_
  refine ax_call (vs := [.ref 285, .int (nI j)]) (rr := []) rfl rfl rfl ?_
  refine mt_isParty  ?_
  show am_ex (d + 10) 212 5 [some (.ref 285), some (.int (nI j)), some (.int 2), some (.int (nI r)), some (.int (nI f)), some (.int (nI N)), none] [.int (bI (decide (¬ (nI j) < 0 ∧ ¬ (S 285 7) - 1 < (nI j))))] (am_hh X S L) _
  refine ax_pF rfl (fun c1 => ?_) (fun c1 => ?_)
  · refine ax_s (pc' := 38) (st' := [.int (-1000001)]) rfl rfl rfl rfl ?_
    refine ax_r rfl rfl rfl ?_
    first | exact absurd (hg.1) c1 | exact absurd c1 (hg.1) | exact absurd (hg.1) (ne_true_of_eq_false c1)
  · refine ax_s (pc' := 9) (st' := [.int 2]) rfl rfl rfl rfl ?_
    refine ax_s (pc' := 10) (st' := [.int 0, .int 2]) rfl rfl rfl rfl ?_
    refine ax_s (pc' := 11) (st' := [.int 4, .int 0, .int 2]) rfl rfl rfl rfl ?_
    refine ax_call (vs := [.int 2, .int 0, .int 4]) (rr := []) rfl rfl rfl ?_
    refine mt_in ?_
    show am_ex (d + 10) 212 14 [some (.ref 285), some (.int (nI j)), some (.int 2), some (.int (nI r)), some (.int (nI f)), some (.int (nI N)), none] [.int 1] (am_hh X S L) _
    refine ax_if_eq rfl (fun c2 => False.elim (by revert c2; decide)) (fun c2 => ?_)
    refine ax_s (pc' := 18) (st' := [.ref 285]) rfl rfl rfl rfl ?_
    refine ax_s (pc' := 19) (st' := [.int (nI r), .ref 285]) rfl rfl rfl rfl ?_
    refine ax_call (vs := [.ref 285, .int (nI r)]) (rr := []) rfl rfl rfl ?_
    refine mt_isRow ?_
    show am_ex (d + 10) 212 22 [some (.ref 285), some (.int (nI j)), some (.int 2), some (.int (nI r)), some (.int (nI f)), some (.int (nI N)), none] [.int (bI (decide (¬ (nI r) < 0 ∧ ¬ 7 < (nI r))))] (am_hh X S L) _
    refine ax_pF rfl (fun c3 => ?_) (fun c3 => ?_)
    · refine ax_s (pc' := 38) (st' := [.int (-1000001)]) rfl rfl rfl rfl ?_
      refine ax_r rfl rfl rfl ?_
      first | exact absurd (hg.2.1) c3 | exact absurd c3 (hg.2.1) | exact absurd (hg.2.1) (ne_true_of_eq_false c3)
    · refine ax_s (pc' := 27) (st' := [.int (nI N)]) rfl rfl rfl rfl ?_
      refine ax_s (pc' := 28) (st' := [.int 1, .int (nI N)]) rfl rfl rfl rfl ?_
      refine ax_s (pc' := 30) (st' := [.int 12, .int 1, .int (nI N)]) rfl rfl rfl rfl ?_
      refine ax_call (vs := [.int (nI N), .int 1, .int 12]) (rr := []) rfl rfl rfl ?_
      refine mt_in ?_
      show am_ex (d + 10) 212 33 [some (.ref 285), some (.int (nI j)), some (.int 2), some (.int (nI r)), some (.int (nI f)), some (.int (nI N)), none] [.int (bI (decide (¬ (nI N) < 1 ∧ ¬ 12 < (nI N))))] (am_hh X S L) _
      refine ax_pT rfl (fun c4 => ?_) (fun c4 => ?_)
      · refine ax_s (pc' := 40) (st' := [.ref 285]) rfl rfl rfl rfl ?_
        refine ax_get rfl (hh_285 _ _ _) rfl rfl rfl ?_
        show am_ex (d + 10) 212 43 [some (.ref 285), some (.int (nI j)), some (.int 2), some (.int (nI r)), some (.int (nI f)), some (.int (nI N)), none] [.ref 287] (am_hh X S L) _
        refine ax_s (pc' := 44) (st' := [.int (nI r), .ref 287]) rfl rfl rfl rfl ?_
        refine ax_ald (j := r) (v := (S 287 r)) rfl (hh_287 _ _ _) rfl rfl (x1 c1 c3 c4) (by decide) rfl ?_
        refine ax_if_ge rfl (fun c5 => ?_) (fun c5 => ?_)
        · refine ax_s (pc' := 56) (st' := [.int (nI f)]) rfl rfl rfl rfl ?_
          refine ax_s (pc' := 58) (st' := [.int (nI N), .int (nI f)]) rfl rfl rfl rfl ?_
          refine ax_s (pc' := 59) (st' := [.ref 285, .int (nI N), .int (nI f)]) rfl rfl rfl rfl ?_
          refine ax_get rfl (hh_285 _ _ _) rfl rfl rfl ?_
          show am_ex (d + 10) 212 62 [some (.ref 285), some (.int (nI j)), some (.int 2), some (.int (nI r)), some (.int (nI f)), some (.int (nI N)), none] [.ref 287, .int (nI N), .int (nI f)] (am_hh X S L) _
          refine ax_s (pc' := 63) (st' := [.int (nI r), .ref 287, .int (nI N), .int (nI f)]) rfl rfl rfl rfl ?_
          refine ax_ald (j := r) (v := (S 287 r)) rfl (hh_287 _ _ _) rfl rfl (x1 c1 c3 c4) (by decide) rfl ?_
          refine ax_call (vs := [.int (nI f), .int (nI N), .int (S 287 r)]) (rr := []) rfl rfl rfl ?_
          refine mt_isPart ?_
          show am_ex (d + 10) 212 67 [some (.ref 285), some (.int (nI j)), some (.int 2), some (.int (nI r)), some (.int (nI f)), some (.int (nI N)), none] [.int (bI (decide (¬ (nI f) < 0 ∧ ¬ (nI N) < 0 ∧ ¬ (S 287 r) < (nI N) ∧ ¬ (S 287 r) - (nI N) < (nI f))))] (am_hh X S L) _
          refine ax_pT rfl (fun c6 => ?_) (fun c6 => ?_)
          · refine ax_s (pc' := 77) (st' := [.ref 285]) rfl rfl rfl rfl ?_
            refine ax_s (pc' := 78) (st' := [.int 0, .ref 285]) rfl rfl rfl rfl ?_
            refine ax_put rfl (hh_285 _ _ _) rfl rfl (show 3 + 1 ≤ _ from Nat.le_of_ble_eq_true rfl) rfl (am_hh_set _ _ _ 285 3 _ rfl) ?_
            refine ax_s (pc' := 83) (st' := [.int 40]) rfl rfl rfl rfl ?_
            refine ax_s (pc' := 84) (st' := [.int (nI r), .int 40]) rfl rfl rfl rfl ?_
            refine ax_s (pc' := 85) (st' := [.int (40 * (nI r))]) rfl rfl rfl rfl ?_
            refine ax_s (pc' := 87) (st' := [.int (nI f), .int (40 * (nI r))]) rfl rfl rfl rfl ?_
            refine ax_s (pc' := 88) (st' := [.int ((40 * (nI r)) + (nI f))]) rfl rfl rfl rfl ?_
            refine ax_s (pc' := 90) (ls' := [some (.ref 285), some (.int (nI j)), some (.int 2), some (.int (nI r)), some (.int (nI f)), some (.int (nI N)), some (.int ((40 * (nI r)) + (nI f)))]) (st' := []) rfl rfl rfl rfl ?_
            refine ax_s (pc' := 91) (st' := [.int 2]) rfl rfl rfl rfl ?_
            refine ax_s (pc' := 147) (ls' := [some (.ref 285), some (.int (nI j)), some (.int 2), some (.int (nI r)), some (.int (nI f)), some (.int (nI N)), some (.int ((40 * (nI r)) + (nI f)))]) (st' := []) (h1 := (am_hh X (am_u S 285 3 0) L)) rfl rfl rfl rfl ?_
            refine ax_s (pc' := 148) (st' := [.ref 285]) rfl rfl rfl rfl ?_
            refine ax_s (pc' := 149) (st' := [.ref 285, .ref 285]) rfl rfl rfl rfl ?_
            refine ax_get rfl (hh_285 _ _ _) rfl rfl rfl ?_
            show am_ex (d + 10) 212 152 [some (.ref 285), some (.int (nI j)), some (.int 2), some (.int (nI r)), some (.int (nI f)), some (.int (nI N)), some (.int ((40 * (nI r)) + (nI f)))] [.ref 292, .ref 285] (am_hh X (am_u S 285 3 0) L) _
            refine ax_s (pc' := 153) (st' := [.int (nI j), .ref 292, .ref 285]) rfl rfl rfl rfl ?_
            refine ax_s (pc' := 154) (st' := [.int 4, .int (nI j), .ref 292, .ref 285]) rfl rfl rfl rfl ?_
            refine ax_s (pc' := 156) (st' := [.int ((40 * (nI r)) + (nI f)), .int 4, .int (nI j), .ref 292, .ref 285]) rfl rfl rfl rfl ?_
            refine ax_s (pc' := 158) (st' := [.int (nI N), .int ((40 * (nI r)) + (nI f)), .int 4, .int (nI j), .ref 292, .ref 285]) rfl rfl rfl rfl ?_
            refine ax_call (vs := [.ref 285, .ref 292, .int (nI j), .int 4, .int ((40 * (nI r)) + (nI f)), .int (nI N)]) (rr := []) rfl rfl rfl ?_
            refine mt_byRow4 hR hK hr hfN ht (at_div hr hf40) (at_rem hr hf40) hj (fun S7 h7 => ?_)
            show am_ex (d + 10) 212 161 [some (.ref 285), some (.int (nI j)), some (.int 2), some (.int (nI r)), some (.int (nI f)), some (.int (nI N)), some (.int ((40 * (nI r)) + (nI f)))] [.int (gb (fun v => w_ls g n t N 0 (am_u W 4 j (nI v))) 4 1 0)] (am_hh X S7 L) _
            refine ax_r rfl rfl rfl ?_
            exact k1 S7 h7
          · refine ax_s (pc' := 71) (st' := [.ref 285]) rfl rfl rfl rfl ?_
            refine ax_s (pc' := 72) (st' := [.int 2, .ref 285]) rfl rfl rfl rfl ?_
            refine ax_call (vs := [.ref 285, .int 2]) (rr := []) rfl rfl rfl ?_
            refine ax_in (ls := [some (.ref 285), some (.int 2)]) rfl ?_
            refine ax_s (pc' := 1) (st' := [.ref 285]) rfl rfl rfl rfl ?_
            refine ax_s (pc' := 2) (st' := [.int 2, .ref 285]) rfl rfl rfl rfl ?_
            refine ax_put rfl (hh_285 _ _ _) rfl rfl (show 3 + 1 ≤ _ from Nat.le_of_ble_eq_true rfl) rfl (am_hh_set _ _ _ 285 3 _ rfl) ?_
            refine ax_s (pc' := 7) (st' := [.int (-1000010)]) rfl rfl rfl rfl ?_
            refine ax_s (pc' := 8) (st' := [.int 2, .int (-1000010)]) rfl rfl rfl rfl ?_
            refine ax_s (pc' := 9) (st' := [.int (-1000012)]) rfl rfl rfl rfl ?_
            refine ax_r rfl rfl rfl ?_
            show am_ex (d + 10) 212 75 [some (.ref 285), some (.int (nI j)), some (.int 2), some (.int (nI r)), some (.int (nI f)), some (.int (nI N)), none] [.int (-1000012)] (am_hh X (am_u S 285 3 2) L) _
            refine ax_r rfl rfl rfl ?_
            first | exact absurd (hg.2.2.2.2) c6 | exact absurd c6 (hg.2.2.2.2) | exact absurd (hg.2.2.2.2) (ne_true_of_eq_false c6)
        · refine ax_s (pc' := 49) (st' := [.ref 285]) rfl rfl rfl rfl ?_
          refine ax_s (pc' := 50) (st' := [.int 1, .ref 285]) rfl rfl rfl rfl ?_
          refine ax_call (vs := [.ref 285, .int 1]) (rr := []) rfl rfl rfl ?_
          refine ax_in (ls := [some (.ref 285), some (.int 1)]) rfl ?_
          refine ax_s (pc' := 1) (st' := [.ref 285]) rfl rfl rfl rfl ?_
          refine ax_s (pc' := 2) (st' := [.int 1, .ref 285]) rfl rfl rfl rfl ?_
          refine ax_put rfl (hh_285 _ _ _) rfl rfl (show 3 + 1 ≤ _ from Nat.le_of_ble_eq_true rfl) rfl (am_hh_set _ _ _ 285 3 _ rfl) ?_
          refine ax_s (pc' := 7) (st' := [.int (-1000010)]) rfl rfl rfl rfl ?_
          refine ax_s (pc' := 8) (st' := [.int 1, .int (-1000010)]) rfl rfl rfl rfl ?_
          refine ax_s (pc' := 9) (st' := [.int (-1000011)]) rfl rfl rfl rfl ?_
          refine ax_r rfl rfl rfl ?_
          show am_ex (d + 10) 212 53 [some (.ref 285), some (.int (nI j)), some (.int 2), some (.int (nI r)), some (.int (nI f)), some (.int (nI N)), none] [.int (-1000011)] (am_hh X (am_u S 285 3 1) L) _
          refine ax_r rfl rfl rfl ?_
          first | exact absurd (hg.2.2.2.1) c5 | exact absurd c5 (hg.2.2.2.1) | exact absurd (hg.2.2.2.1) (ne_true_of_eq_false c5)
      · refine ax_s (pc' := 38) (st' := [.int (-1000001)]) rfl rfl rfl rfl ?_
        refine ax_r rfl rfl rfl ?_
        first | exact absurd (hg.2.2.1) c4 | exact absurd c4 (hg.2.2.1) | exact absurd (hg.2.2.1) (ne_true_of_eq_false c4)
theorem wv_k_who3 {d : Nat} {X : Nat × (Nat → Int32)} {S : Nat → Nat → Int32} {L : Nat → Int64} {g n r f N j : Nat} {t : Nat → Int32} {Q : Option Value → am_H → Prop} (hr : r < 8) (hfN : f + N ≤ 40) (ht : ∀ i, i < N → S (8 + 1 * r) (f + i) = t i) (hf : wF (am_sub S 20) g n) (hc9 : w_cl (am_sub S 29)) (hc0 : w_cl (am_sub S 20)) (hj : j < 6)  (hg : (¬ (nI j) < 0 ∧ ¬ (S 20 4) ≤ (nI j)) ∧ (¬ (nI r) < 0 ∧ ¬ 8 ≤ (nI r)) ∧ (¬ ((nI N) < 1 ∨ 12 < (nI N))) ∧ ¬ ((S 17 r) = -1) ∧ (¬ (nI f) < 0 ∧ ¬ (nI N) < 0 ∧ ¬ (S 17 r) < (nI f) ∧ ¬ (S 17 r) - (nI f) < (nI N))) (x1 : ¬ (nI j) < 0 ∧ ¬ (S 20 4) ≤ (nI j) → ¬ (nI r) < 0 ∧ ¬ 8 ≤ (nI r) → ¬ ((nI N) < 1 ∨ 12 < (nI N)) → r < 8) (x2 : r < 8) (k1 : ∀ W7 : Nat → Nat → Int32, w_cl W7 → Q (some (.int (gc (fun v => w_ls g n t N 0 (am_u (am_sub S 20) 0 1 (nI v))) 99 1 0))) (am_hh X (am_ovl (am_u S 5 12 0) 29 W7) L)) : am_mt (d + 9) 114 [.ref 5, .int (nI j), .int 3, .int (nI r), .int (nI f), .int (nI N)] (am_hh X S L) Q := by
  refine ax_in (ls := [some (.ref 5), some (.int (nI j)), some (.int 3), some (.int (nI r)), some (.int (nI f)), some (.int (nI N))]) rfl ?_
  refine ax_s (pc' := 1) (st' := [.ref 5]) rfl rfl rfl rfl ?_
  refine ax_get rfl (hh_5 _ _ _) rfl rfl rfl ?_
  show am_ex (d + 9) 114 4 [some (.ref 5), some (.int (nI j)), some (.int 3), some (.int (nI r)), some (.int (nI f)), some (.int (nI N))] [.ref 20] (am_hh X S L) _
  refine ax_s (pc' := 5) (st' := [.int (nI j), .ref 20]) rfl rfl rfl rfl ?_
  refine ax_call (vs := [.ref 20, .int (nI j)]) (rr := []) rfl rfl rfl ?_
  refine kw (am_hh_sub isW20 X S L) (am_hh_sub isW20 X S L).symm (fun _ => ct_hasParty (am_isW_k isW20 X S L)) ?_
  show am_ex (d + 9) 114 8 [some (.ref 5), some (.int (nI j)), some (.int 3), some (.int (nI r)), some (.int (nI f)), some (.int (nI N))] [.int (bI (decide (¬ (nI j) < 0 ∧ ¬ (S 20 4) ≤ (nI j))))] (am_hh X S L) _
  refine ax_pF rfl (fun c1 => ?_) (fun c1 => ?_)
  · refine ax_s (pc' := 40) (st' := [.int (-1000001)]) rfl rfl rfl rfl ?_
    refine ax_r rfl rfl rfl ?_
    first | exact absurd (hg.1) c1 | exact absurd c1 (hg.1) | exact absurd (hg.1) (ne_true_of_eq_false c1)
  · refine ax_s (pc' := 12) (st' := [.int 3]) rfl rfl rfl rfl ?_
    refine ax_s (pc' := 13) (st' := [.int 0, .int 3]) rfl rfl rfl rfl ?_
    refine ax_s (pc' := 14) (st' := [.int 4, .int 0, .int 3]) rfl rfl rfl rfl ?_
    refine ax_call (vs := [.int 3, .int 0, .int 4]) (rr := []) rfl rfl rfl ?_
    refine ct_isOutside ?_
    show am_ex (d + 9) 114 17 [some (.ref 5), some (.int (nI j)), some (.int 3), some (.int (nI r)), some (.int (nI f)), some (.int (nI N))] [.int 0] (am_hh X S L) _
    refine ax_if_ne rfl (fun c2 => False.elim (by revert c2; decide)) (fun c2 => ?_)
    refine ax_s (pc' := 21) (st' := [.int (nI r)]) rfl rfl rfl rfl ?_
    refine ax_call (vs := [.int (nI r)]) (rr := []) rfl rfl rfl ?_
    refine ct_isRow ?_
    show am_ex (d + 9) 114 24 [some (.ref 5), some (.int (nI j)), some (.int 3), some (.int (nI r)), some (.int (nI f)), some (.int (nI N))] [.int (bI (decide (¬ (nI r) < 0 ∧ ¬ 8 ≤ (nI r))))] (am_hh X S L) _
    refine ax_pF rfl (fun c3 => ?_) (fun c3 => ?_)
    · refine ax_s (pc' := 40) (st' := [.int (-1000001)]) rfl rfl rfl rfl ?_
      refine ax_r rfl rfl rfl ?_
      first | exact absurd (hg.2.1) c3 | exact absurd c3 (hg.2.1) | exact absurd (hg.2.1) (ne_true_of_eq_false c3)
    · refine ax_s (pc' := 29) (st' := [.int (nI N)]) rfl rfl rfl rfl ?_
      refine ax_s (pc' := 30) (st' := [.int 1, .int (nI N)]) rfl rfl rfl rfl ?_
      refine ax_s (pc' := 32) (st' := [.int 12, .int 1, .int (nI N)]) rfl rfl rfl rfl ?_
      refine ax_call (vs := [.int (nI N), .int 1, .int 12]) (rr := []) rfl rfl rfl ?_
      refine ct_isOutside ?_
      show am_ex (d + 9) 114 35 [some (.ref 5), some (.int (nI j)), some (.int 3), some (.int (nI r)), some (.int (nI f)), some (.int (nI N))] [.int (bI (decide ((nI N) < 1 ∨ 12 < (nI N))))] (am_hh X S L) _
      refine ax_pF rfl (fun c4 => ?_) (fun c4 => ?_)
      · refine ax_s (pc' := 42) (st' := [.ref 5]) rfl rfl rfl rfl ?_
        refine ax_get rfl (hh_5 _ _ _) rfl rfl rfl ?_
        show am_ex (d + 9) 114 45 [some (.ref 5), some (.int (nI j)), some (.int 3), some (.int (nI r)), some (.int (nI f)), some (.int (nI N))] [.ref 6] (am_hh X S L) _
        refine ax_s (pc' := 46) (st' := [.int (nI r), .ref 6]) rfl rfl rfl rfl ?_
        refine ax_call (vs := [.ref 6, .int (nI r)]) (rr := []) rfl rfl rfl ?_
        refine kt_isMissing rfl (x1 c1 c3 c4) ?_
        show am_ex (d + 9) 114 49 [some (.ref 5), some (.int (nI j)), some (.int 3), some (.int (nI r)), some (.int (nI f)), some (.int (nI N))] [.int (bI (decide ((S 17 r) = -1)))] (am_hh X S L) _
        refine ax_pF rfl (fun c5 => ?_) (fun c5 => ?_)
        · refine ax_s (pc' := 59) (st' := [.ref 5]) rfl rfl rfl rfl ?_
          refine ax_get rfl (hh_5 _ _ _) rfl rfl rfl ?_
          show am_ex (d + 9) 114 62 [some (.ref 5), some (.int (nI j)), some (.int 3), some (.int (nI r)), some (.int (nI f)), some (.int (nI N))] [.ref 6] (am_hh X S L) _
          refine ax_s (pc' := 63) (st' := [.int (nI r), .ref 6]) rfl rfl rfl rfl ?_
          refine ax_s (pc' := 65) (st' := [.int (nI f), .int (nI r), .ref 6]) rfl rfl rfl rfl ?_
          refine ax_s (pc' := 67) (st' := [.int (nI N), .int (nI f), .int (nI r), .ref 6]) rfl rfl rfl rfl ?_
          refine ax_call (vs := [.ref 6, .int (nI r), .int (nI f), .int (nI N)]) (rr := []) rfl rfl rfl ?_
          refine kt_hasPlaces rfl (x1 c1 c3 c4) ?_
          show am_ex (d + 9) 114 70 [some (.ref 5), some (.int (nI j)), some (.int 3), some (.int (nI r)), some (.int (nI f)), some (.int (nI N))] [.int (bI (decide (¬ (nI f) < 0 ∧ ¬ (nI N) < 0 ∧ ¬ (S 17 r) < (nI f) ∧ ¬ (S 17 r) - (nI f) < (nI N))))] (am_hh X S L) _
          refine ax_pT rfl (fun c6 => ?_) (fun c6 => ?_)
          · refine ax_s (pc' := 80) (st' := [.ref 5]) rfl rfl rfl rfl ?_
            refine ax_s (pc' := 81) (st' := [.ref 5, .ref 5]) rfl rfl rfl rfl ?_
            refine ax_get rfl (hh_5 _ _ _) rfl rfl rfl ?_
            show am_ex (d + 9) 114 84 [some (.ref 5), some (.int (nI j)), some (.int 3), some (.int (nI r)), some (.int (nI f)), some (.int (nI N))] [.ref 280, .ref 5] (am_hh X S L) _
            refine ax_s (pc' := 85) (st' := [.int (nI j), .ref 280, .ref 5]) rfl rfl rfl rfl ?_
            refine ax_s (pc' := 86) (st' := [.int 3, .int (nI j), .ref 280, .ref 5]) rfl rfl rfl rfl ?_
            refine ax_s (pc' := 87) (st' := [.ref 5, .int 3, .int (nI j), .ref 280, .ref 5]) rfl rfl rfl rfl ?_
            refine ax_get rfl (hh_5 _ _ _) rfl rfl rfl ?_
            show am_ex (d + 9) 114 90 [some (.ref 5), some (.int (nI j)), some (.int 3), some (.int (nI r)), some (.int (nI f)), some (.int (nI N))] [.ref 6, .int 3, .int (nI j), .ref 280, .ref 5] (am_hh X S L) _
            refine ax_get rfl (hh_6 _ _ _) rfl rfl rfl ?_
            show am_ex (d + 9) 114 93 [some (.ref 5), some (.int (nI j)), some (.int 3), some (.int (nI r)), some (.int (nI f)), some (.int (nI N))] [.ref 7, .int 3, .int (nI j), .ref 280, .ref 5] (am_hh X S L) _
            refine ax_s (pc' := 94) (st' := [.int (nI r), .ref 7, .int 3, .int (nI j), .ref 280, .ref 5]) rfl rfl rfl rfl ?_
            refine ax_qld (j := r) (b := (8 + 1 * r)) rfl (hh_7 _ _ _) rfl (by decide) rfl x2 (by decide) (if_pos x2) ?_
            refine ax_s (pc' := 97) (st' := [.int (nI f), .ref (8 + 1 * r), .int 3, .int (nI j), .ref 280, .ref 5]) rfl rfl rfl rfl ?_
            refine ax_s (pc' := 99) (st' := [.int (nI N), .int (nI f), .ref (8 + 1 * r), .int 3, .int (nI j), .ref 280, .ref 5]) rfl rfl rfl rfl ?_
            refine ax_call (vs := [.ref 280, .int (nI j), .int 3, .ref (8 + 1 * r), .int (nI f), .int (nI N)]) (rr := [.ref 5]) rfl rfl rfl ?_
            refine kt_guess3 hr hfN ht hf hc9 hc0 hj (fun W7 h7 => ?_)
            show am_ex (d + 9) 114 102 [some (.ref 5), some (.int (nI j)), some (.int 3), some (.int (nI r)), some (.int (nI f)), some (.int (nI N))] [.int (gc (fun v => w_ls g n t N 0 (am_u (am_sub S 20) 0 1 (nI v))) 99 1 0), .ref 5] (am_hh X (am_ovl S 29 W7) L) _
            refine ax_call (vs := [.ref 5, .int (gc (fun v => w_ls g n t N 0 (am_u (am_sub S 20) 0 1 (nI v))) 99 1 0)]) (rr := []) rfl rfl rfl ?_
            refine ax_in (ls := [some (.ref 5), some (.int (gc (fun v => w_ls g n t N 0 (am_u (am_sub S 20) 0 1 (nI v))) 99 1 0))]) rfl ?_
            refine ax_s (pc' := 1) (st' := [.ref 5]) rfl rfl rfl rfl ?_
            refine ax_s (pc' := 2) (st' := [.int 0, .ref 5]) rfl rfl rfl rfl ?_
            refine ax_put rfl (hh_5 _ _ _) rfl rfl (show 12 + 1 ≤ _ from Nat.le_of_ble_eq_true rfl) rfl (am_hh_setO (i := 12) (v := 0) _ _ _ _ (by decide) rfl) ?_
            refine ax_s (pc' := 6) (st' := [.int (gc (fun v => w_ls g n t N 0 (am_u (am_sub S 20) 0 1 (nI v))) 99 1 0)]) rfl rfl rfl rfl ?_
            refine ax_r rfl rfl rfl ?_
            show am_ex (d + 9) 114 105 [some (.ref 5), some (.int (nI j)), some (.int 3), some (.int (nI r)), some (.int (nI f)), some (.int (nI N))] [.int (gc (fun v => w_ls g n t N 0 (am_u (am_sub S 20) 0 1 (nI v))) 99 1 0)] (am_hh X (am_ovl (am_u S 5 12 0) 29 W7) L) _
            refine ax_r rfl rfl rfl ?_
            exact k1 W7 h7
          · refine ax_s (pc' := 74) (st' := [.ref 5]) rfl rfl rfl rfl ?_
            refine ax_s (pc' := 75) (st' := [.int 2, .ref 5]) rfl rfl rfl rfl ?_
            refine ax_call (vs := [.ref 5, .int 2]) (rr := []) rfl rfl rfl ?_
            refine ax_in (ls := [some (.ref 5), some (.int 2)]) rfl ?_
            refine ax_s (pc' := 1) (st' := [.ref 5]) rfl rfl rfl rfl ?_
            refine ax_s (pc' := 2) (st' := [.int 2, .ref 5]) rfl rfl rfl rfl ?_
            refine ax_put rfl (hh_5 _ _ _) rfl rfl (show 12 + 1 ≤ _ from Nat.le_of_ble_eq_true rfl) rfl (am_hh_set _ _ _ 5 12 _ rfl) ?_
            refine ax_s (pc' := 8) (st' := [.int (-1000010)]) rfl rfl rfl rfl ?_
            refine ax_s (pc' := 9) (st' := [.int 2, .int (-1000010)]) rfl rfl rfl rfl ?_
            refine ax_s (pc' := 10) (st' := [.int (-1000012)]) rfl rfl rfl rfl ?_
            refine ax_r rfl rfl rfl ?_
            show am_ex (d + 9) 114 78 [some (.ref 5), some (.int (nI j)), some (.int 3), some (.int (nI r)), some (.int (nI f)), some (.int (nI N))] [.int (-1000012)] (am_hh X (am_u S 5 12 2) L) _
            refine ax_r rfl rfl rfl ?_
            first | exact absurd (hg.2.2.2.2) c6 | exact absurd c6 (hg.2.2.2.2) | exact absurd (hg.2.2.2.2) (ne_true_of_eq_false c6)
        · refine ax_s (pc' := 53) (st' := [.ref 5]) rfl rfl rfl rfl ?_
          refine ax_s (pc' := 54) (st' := [.int 1, .ref 5]) rfl rfl rfl rfl ?_
          refine ax_call (vs := [.ref 5, .int 1]) (rr := []) rfl rfl rfl ?_
          refine ax_in (ls := [some (.ref 5), some (.int 1)]) rfl ?_
          refine ax_s (pc' := 1) (st' := [.ref 5]) rfl rfl rfl rfl ?_
          refine ax_s (pc' := 2) (st' := [.int 1, .ref 5]) rfl rfl rfl rfl ?_
          refine ax_put rfl (hh_5 _ _ _) rfl rfl (show 12 + 1 ≤ _ from Nat.le_of_ble_eq_true rfl) rfl (am_hh_set _ _ _ 5 12 _ rfl) ?_
          refine ax_s (pc' := 8) (st' := [.int (-1000010)]) rfl rfl rfl rfl ?_
          refine ax_s (pc' := 9) (st' := [.int 1, .int (-1000010)]) rfl rfl rfl rfl ?_
          refine ax_s (pc' := 10) (st' := [.int (-1000011)]) rfl rfl rfl rfl ?_
          refine ax_r rfl rfl rfl ?_
          show am_ex (d + 9) 114 57 [some (.ref 5), some (.int (nI j)), some (.int 3), some (.int (nI r)), some (.int (nI f)), some (.int (nI N))] [.int (-1000011)] (am_hh X (am_u S 5 12 1) L) _
          refine ax_r rfl rfl rfl ?_
          first | exact absurd (hg.2.2.2.1) c5 | exact absurd c5 (hg.2.2.2.1) | exact absurd (hg.2.2.2.1) (ne_true_of_eq_false c5)
      · refine ax_s (pc' := 40) (st' := [.int (-1000001)]) rfl rfl rfl rfl ?_
        refine ax_r rfl rfl rfl ?_
        first | exact absurd (hg.2.2.1) c4 | exact absurd c4 (hg.2.2.1) | exact absurd (hg.2.2.1) (ne_true_of_eq_false c4)
theorem wv_m_who3 {d : Nat} {X : Nat × (Nat → Int32)} {S : Nat → Nat → Int32} {L : Nat → Int64} {g n r f N j : Nat} {t : Nat → Int32} {W : Nat → Nat → Int32} {Q : Option Value → am_H → Prop} (hR : mR W (am_u S 285 3 0) 293 g n) (hK : JK (am_u S 285 3 0)) (hr : r < 8) (hfN : f + N ≤ 40) (hf40 : f < 40) (ht : ∀ i, i < N → (am_u S 285 3 0) 288 (40 * r + f + i) = t i) (hj : j < 6)  (hg : (¬ (nI j) < 0 ∧ ¬ (S 285 7) - 1 < (nI j)) ∧ (¬ (nI r) < 0 ∧ ¬ 7 < (nI r)) ∧ (¬ (nI N) < 1 ∧ ¬ 12 < (nI N)) ∧ 0 ≤ (S 287 r) ∧ (¬ (nI f) < 0 ∧ ¬ (nI N) < 0 ∧ ¬ (S 287 r) < (nI N) ∧ ¬ (S 287 r) - (nI N) < (nI f))) (x1 : ¬ (nI j) < 0 ∧ ¬ (S 285 7) - 1 < (nI j) → ¬ (nI r) < 0 ∧ ¬ 7 < (nI r) → ¬ (nI N) < 1 ∧ ¬ 12 < (nI N) → r < 8) (k1 : ∀ S7 : Nat → Nat → Int32, F8 (am_u S 285 3 0) S7 → Q (some (.int (dc (fun v => w_ls g n t N 0 (am_u W 0 1 (nI v))) 99 0))) (am_hh X S7 L)) : am_mt (d + 10) 212 [.ref 285, .int (nI j), .int 3, .int (nI r), .int (nI f), .int (nI N)] (am_hh X S L) Q := by
  refine ax_in (ls := [some (.ref 285), some (.int (nI j)), some (.int 3), some (.int (nI r)), some (.int (nI f)), some (.int (nI N)), none]) rfl ?_
  refine ax_s (pc' := 1) (st' := [.ref 285]) rfl rfl rfl rfl ?_
  refine ax_s (pc' := 2) (st' := [.int (nI j), .ref 285]) rfl rfl rfl rfl ?_
  refine ax_call (vs := [.ref 285, .int (nI j)]) (rr := []) rfl rfl rfl ?_
  refine mt_isParty  ?_
  show am_ex (d + 10) 212 5 [some (.ref 285), some (.int (nI j)), some (.int 3), some (.int (nI r)), some (.int (nI f)), some (.int (nI N)), none] [.int (bI (decide (¬ (nI j) < 0 ∧ ¬ (S 285 7) - 1 < (nI j))))] (am_hh X S L) _
  refine ax_pF rfl (fun c1 => ?_) (fun c1 => ?_)
  · refine ax_s (pc' := 38) (st' := [.int (-1000001)]) rfl rfl rfl rfl ?_
    refine ax_r rfl rfl rfl ?_
    first | exact absurd (hg.1) c1 | exact absurd c1 (hg.1) | exact absurd (hg.1) (ne_true_of_eq_false c1)
  · refine ax_s (pc' := 9) (st' := [.int 3]) rfl rfl rfl rfl ?_
    refine ax_s (pc' := 10) (st' := [.int 0, .int 3]) rfl rfl rfl rfl ?_
    refine ax_s (pc' := 11) (st' := [.int 4, .int 0, .int 3]) rfl rfl rfl rfl ?_
    refine ax_call (vs := [.int 3, .int 0, .int 4]) (rr := []) rfl rfl rfl ?_
    refine mt_in ?_
    show am_ex (d + 10) 212 14 [some (.ref 285), some (.int (nI j)), some (.int 3), some (.int (nI r)), some (.int (nI f)), some (.int (nI N)), none] [.int 1] (am_hh X S L) _
    refine ax_if_eq rfl (fun c2 => False.elim (by revert c2; decide)) (fun c2 => ?_)
    refine ax_s (pc' := 18) (st' := [.ref 285]) rfl rfl rfl rfl ?_
    refine ax_s (pc' := 19) (st' := [.int (nI r), .ref 285]) rfl rfl rfl rfl ?_
    refine ax_call (vs := [.ref 285, .int (nI r)]) (rr := []) rfl rfl rfl ?_
    refine mt_isRow ?_
    show am_ex (d + 10) 212 22 [some (.ref 285), some (.int (nI j)), some (.int 3), some (.int (nI r)), some (.int (nI f)), some (.int (nI N)), none] [.int (bI (decide (¬ (nI r) < 0 ∧ ¬ 7 < (nI r))))] (am_hh X S L) _
    refine ax_pF rfl (fun c3 => ?_) (fun c3 => ?_)
    · refine ax_s (pc' := 38) (st' := [.int (-1000001)]) rfl rfl rfl rfl ?_
      refine ax_r rfl rfl rfl ?_
      first | exact absurd (hg.2.1) c3 | exact absurd c3 (hg.2.1) | exact absurd (hg.2.1) (ne_true_of_eq_false c3)
    · refine ax_s (pc' := 27) (st' := [.int (nI N)]) rfl rfl rfl rfl ?_
      refine ax_s (pc' := 28) (st' := [.int 1, .int (nI N)]) rfl rfl rfl rfl ?_
      refine ax_s (pc' := 30) (st' := [.int 12, .int 1, .int (nI N)]) rfl rfl rfl rfl ?_
      refine ax_call (vs := [.int (nI N), .int 1, .int 12]) (rr := []) rfl rfl rfl ?_
      refine mt_in ?_
      show am_ex (d + 10) 212 33 [some (.ref 285), some (.int (nI j)), some (.int 3), some (.int (nI r)), some (.int (nI f)), some (.int (nI N)), none] [.int (bI (decide (¬ (nI N) < 1 ∧ ¬ 12 < (nI N))))] (am_hh X S L) _
      refine ax_pT rfl (fun c4 => ?_) (fun c4 => ?_)
      · refine ax_s (pc' := 40) (st' := [.ref 285]) rfl rfl rfl rfl ?_
        refine ax_get rfl (hh_285 _ _ _) rfl rfl rfl ?_
        show am_ex (d + 10) 212 43 [some (.ref 285), some (.int (nI j)), some (.int 3), some (.int (nI r)), some (.int (nI f)), some (.int (nI N)), none] [.ref 287] (am_hh X S L) _
        refine ax_s (pc' := 44) (st' := [.int (nI r), .ref 287]) rfl rfl rfl rfl ?_
        refine ax_ald (j := r) (v := (S 287 r)) rfl (hh_287 _ _ _) rfl rfl (x1 c1 c3 c4) (by decide) rfl ?_
        refine ax_if_ge rfl (fun c5 => ?_) (fun c5 => ?_)
        · refine ax_s (pc' := 56) (st' := [.int (nI f)]) rfl rfl rfl rfl ?_
          refine ax_s (pc' := 58) (st' := [.int (nI N), .int (nI f)]) rfl rfl rfl rfl ?_
          refine ax_s (pc' := 59) (st' := [.ref 285, .int (nI N), .int (nI f)]) rfl rfl rfl rfl ?_
          refine ax_get rfl (hh_285 _ _ _) rfl rfl rfl ?_
          show am_ex (d + 10) 212 62 [some (.ref 285), some (.int (nI j)), some (.int 3), some (.int (nI r)), some (.int (nI f)), some (.int (nI N)), none] [.ref 287, .int (nI N), .int (nI f)] (am_hh X S L) _
          refine ax_s (pc' := 63) (st' := [.int (nI r), .ref 287, .int (nI N), .int (nI f)]) rfl rfl rfl rfl ?_
          refine ax_ald (j := r) (v := (S 287 r)) rfl (hh_287 _ _ _) rfl rfl (x1 c1 c3 c4) (by decide) rfl ?_
          refine ax_call (vs := [.int (nI f), .int (nI N), .int (S 287 r)]) (rr := []) rfl rfl rfl ?_
          refine mt_isPart ?_
          show am_ex (d + 10) 212 67 [some (.ref 285), some (.int (nI j)), some (.int 3), some (.int (nI r)), some (.int (nI f)), some (.int (nI N)), none] [.int (bI (decide (¬ (nI f) < 0 ∧ ¬ (nI N) < 0 ∧ ¬ (S 287 r) < (nI N) ∧ ¬ (S 287 r) - (nI N) < (nI f))))] (am_hh X S L) _
          refine ax_pT rfl (fun c6 => ?_) (fun c6 => ?_)
          · refine ax_s (pc' := 77) (st' := [.ref 285]) rfl rfl rfl rfl ?_
            refine ax_s (pc' := 78) (st' := [.int 0, .ref 285]) rfl rfl rfl rfl ?_
            refine ax_put rfl (hh_285 _ _ _) rfl rfl (show 3 + 1 ≤ _ from Nat.le_of_ble_eq_true rfl) rfl (am_hh_set _ _ _ 285 3 _ rfl) ?_
            refine ax_s (pc' := 83) (st' := [.int 40]) rfl rfl rfl rfl ?_
            refine ax_s (pc' := 84) (st' := [.int (nI r), .int 40]) rfl rfl rfl rfl ?_
            refine ax_s (pc' := 85) (st' := [.int (40 * (nI r))]) rfl rfl rfl rfl ?_
            refine ax_s (pc' := 87) (st' := [.int (nI f), .int (40 * (nI r))]) rfl rfl rfl rfl ?_
            refine ax_s (pc' := 88) (st' := [.int ((40 * (nI r)) + (nI f))]) rfl rfl rfl rfl ?_
            refine ax_s (pc' := 90) (ls' := [some (.ref 285), some (.int (nI j)), some (.int 3), some (.int (nI r)), some (.int (nI f)), some (.int (nI N)), some (.int ((40 * (nI r)) + (nI f)))]) (st' := []) rfl rfl rfl rfl ?_
            refine ax_s (pc' := 91) (st' := [.int 3]) rfl rfl rfl rfl ?_
            refine ax_s (pc' := 162) (ls' := [some (.ref 285), some (.int (nI j)), some (.int 3), some (.int (nI r)), some (.int (nI f)), some (.int (nI N)), some (.int ((40 * (nI r)) + (nI f)))]) (st' := []) (h1 := (am_hh X (am_u S 285 3 0) L)) rfl rfl rfl rfl ?_
            refine ax_s (pc' := 163) (st' := [.ref 285]) rfl rfl rfl rfl ?_
            refine ax_s (pc' := 164) (st' := [.int 3, .ref 285]) rfl rfl rfl rfl ?_
            refine ax_s (pc' := 165) (st' := [.int (nI r), .int 3, .ref 285]) rfl rfl rfl rfl ?_
            refine ax_s (pc' := 167) (st' := [.int (nI f), .int (nI r), .int 3, .ref 285]) rfl rfl rfl rfl ?_
            refine ax_s (pc' := 169) (st' := [.int (nI N), .int (nI f), .int (nI r), .int 3, .ref 285]) rfl rfl rfl rfl ?_
            refine ax_call (vs := [.ref 285, .int 3, .int (nI r), .int (nI f), .int (nI N)]) (rr := []) rfl rfl rfl ?_
            refine mt_limitsBy3 hR hK hr hfN ht (fun S7 h7 => ?_)
            show am_ex (d + 10) 212 172 [some (.ref 285), some (.int (nI j)), some (.int 3), some (.int (nI r)), some (.int (nI f)), some (.int (nI N)), some (.int ((40 * (nI r)) + (nI f)))] [.int (dc (fun v => w_ls g n t N 0 (am_u W 0 1 (nI v))) 99 0)] (am_hh X S7 L) _
            refine ax_r rfl rfl rfl ?_
            exact k1 S7 h7
          · refine ax_s (pc' := 71) (st' := [.ref 285]) rfl rfl rfl rfl ?_
            refine ax_s (pc' := 72) (st' := [.int 2, .ref 285]) rfl rfl rfl rfl ?_
            refine ax_call (vs := [.ref 285, .int 2]) (rr := []) rfl rfl rfl ?_
            refine ax_in (ls := [some (.ref 285), some (.int 2)]) rfl ?_
            refine ax_s (pc' := 1) (st' := [.ref 285]) rfl rfl rfl rfl ?_
            refine ax_s (pc' := 2) (st' := [.int 2, .ref 285]) rfl rfl rfl rfl ?_
            refine ax_put rfl (hh_285 _ _ _) rfl rfl (show 3 + 1 ≤ _ from Nat.le_of_ble_eq_true rfl) rfl (am_hh_set _ _ _ 285 3 _ rfl) ?_
            refine ax_s (pc' := 7) (st' := [.int (-1000010)]) rfl rfl rfl rfl ?_
            refine ax_s (pc' := 8) (st' := [.int 2, .int (-1000010)]) rfl rfl rfl rfl ?_
            refine ax_s (pc' := 9) (st' := [.int (-1000012)]) rfl rfl rfl rfl ?_
            refine ax_r rfl rfl rfl ?_
            show am_ex (d + 10) 212 75 [some (.ref 285), some (.int (nI j)), some (.int 3), some (.int (nI r)), some (.int (nI f)), some (.int (nI N)), none] [.int (-1000012)] (am_hh X (am_u S 285 3 2) L) _
            refine ax_r rfl rfl rfl ?_
            first | exact absurd (hg.2.2.2.2) c6 | exact absurd c6 (hg.2.2.2.2) | exact absurd (hg.2.2.2.2) (ne_true_of_eq_false c6)
        · refine ax_s (pc' := 49) (st' := [.ref 285]) rfl rfl rfl rfl ?_
          refine ax_s (pc' := 50) (st' := [.int 1, .ref 285]) rfl rfl rfl rfl ?_
          refine ax_call (vs := [.ref 285, .int 1]) (rr := []) rfl rfl rfl ?_
          refine ax_in (ls := [some (.ref 285), some (.int 1)]) rfl ?_
          refine ax_s (pc' := 1) (st' := [.ref 285]) rfl rfl rfl rfl ?_
          refine ax_s (pc' := 2) (st' := [.int 1, .ref 285]) rfl rfl rfl rfl ?_
          refine ax_put rfl (hh_285 _ _ _) rfl rfl (show 3 + 1 ≤ _ from Nat.le_of_ble_eq_true rfl) rfl (am_hh_set _ _ _ 285 3 _ rfl) ?_
          refine ax_s (pc' := 7) (st' := [.int (-1000010)]) rfl rfl rfl rfl ?_
          refine ax_s (pc' := 8) (st' := [.int 1, .int (-1000010)]) rfl rfl rfl rfl ?_
          refine ax_s (pc' := 9) (st' := [.int (-1000011)]) rfl rfl rfl rfl ?_
          refine ax_r rfl rfl rfl ?_
          show am_ex (d + 10) 212 53 [some (.ref 285), some (.int (nI j)), some (.int 3), some (.int (nI r)), some (.int (nI f)), some (.int (nI N)), none] [.int (-1000011)] (am_hh X (am_u S 285 3 1) L) _
          refine ax_r rfl rfl rfl ?_
          first | exact absurd (hg.2.2.2.1) c5 | exact absurd c5 (hg.2.2.2.1) | exact absurd (hg.2.2.2.1) (ne_true_of_eq_false c5)
      · refine ax_s (pc' := 38) (st' := [.int (-1000001)]) rfl rfl rfl rfl ?_
        refine ax_r rfl rfl rfl ?_
        first | exact absurd (hg.2.2.1) c4 | exact absurd c4 (hg.2.2.1) | exact absurd (hg.2.2.1) (ne_true_of_eq_false c4)
theorem wv_k_who4 {d : Nat} {X : Nat × (Nat → Int32)} {S : Nat → Nat → Int32} {L : Nat → Int64} {g n r f N j : Nat} {t : Nat → Int32} {Q : Option Value → am_H → Prop} (hr : r < 8) (hfN : f + N ≤ 40) (ht : ∀ i, i < N → S (8 + 1 * r) (f + i) = t i) (hf : wF (am_sub S 20) g n) (hc9 : w_cl (am_sub S 29)) (hc0 : w_cl (am_sub S 20)) (hj : j < 6)  (hg : (¬ (nI j) < 0 ∧ ¬ (S 20 4) ≤ (nI j)) ∧ (¬ (nI r) < 0 ∧ ¬ 8 ≤ (nI r)) ∧ (¬ ((nI N) < 1 ∨ 12 < (nI N))) ∧ ¬ ((S 17 r) = -1) ∧ (¬ (nI f) < 0 ∧ ¬ (nI N) < 0 ∧ ¬ (S 17 r) < (nI f) ∧ ¬ (S 17 r) - (nI f) < (nI N))) (x1 : ¬ (nI j) < 0 ∧ ¬ (S 20 4) ≤ (nI j) → ¬ (nI r) < 0 ∧ ¬ 8 ≤ (nI r) → ¬ ((nI N) < 1 ∨ 12 < (nI N)) → r < 8) (x2 : r < 8) (k1 : ∀ W7 : Nat → Nat → Int32, w_cl W7 → Q (some (.int (gl (fun v => w_ls g n t N 0 (am_u (am_sub S 20) 0 1 (nI v))) 99 1 (-1000000)))) (am_hh X (am_ovl (am_u S 5 12 0) 29 W7) L)) : am_mt (d + 9) 114 [.ref 5, .int (nI j), .int 4, .int (nI r), .int (nI f), .int (nI N)] (am_hh X S L) Q := by
  refine ax_in (ls := [some (.ref 5), some (.int (nI j)), some (.int 4), some (.int (nI r)), some (.int (nI f)), some (.int (nI N))]) rfl ?_
  refine ax_s (pc' := 1) (st' := [.ref 5]) rfl rfl rfl rfl ?_
  refine ax_get rfl (hh_5 _ _ _) rfl rfl rfl ?_
  show am_ex (d + 9) 114 4 [some (.ref 5), some (.int (nI j)), some (.int 4), some (.int (nI r)), some (.int (nI f)), some (.int (nI N))] [.ref 20] (am_hh X S L) _
  refine ax_s (pc' := 5) (st' := [.int (nI j), .ref 20]) rfl rfl rfl rfl ?_
  refine ax_call (vs := [.ref 20, .int (nI j)]) (rr := []) rfl rfl rfl ?_
  refine kw (am_hh_sub isW20 X S L) (am_hh_sub isW20 X S L).symm (fun _ => ct_hasParty (am_isW_k isW20 X S L)) ?_
  show am_ex (d + 9) 114 8 [some (.ref 5), some (.int (nI j)), some (.int 4), some (.int (nI r)), some (.int (nI f)), some (.int (nI N))] [.int (bI (decide (¬ (nI j) < 0 ∧ ¬ (S 20 4) ≤ (nI j))))] (am_hh X S L) _
  refine ax_pF rfl (fun c1 => ?_) (fun c1 => ?_)
  · refine ax_s (pc' := 40) (st' := [.int (-1000001)]) rfl rfl rfl rfl ?_
    refine ax_r rfl rfl rfl ?_
    first | exact absurd (hg.1) c1 | exact absurd c1 (hg.1) | exact absurd (hg.1) (ne_true_of_eq_false c1)
  · refine ax_s (pc' := 12) (st' := [.int 4]) rfl rfl rfl rfl ?_
    refine ax_s (pc' := 13) (st' := [.int 0, .int 4]) rfl rfl rfl rfl ?_
    refine ax_s (pc' := 14) (st' := [.int 4, .int 0, .int 4]) rfl rfl rfl rfl ?_
    refine ax_call (vs := [.int 4, .int 0, .int 4]) (rr := []) rfl rfl rfl ?_
    refine ct_isOutside ?_
    show am_ex (d + 9) 114 17 [some (.ref 5), some (.int (nI j)), some (.int 4), some (.int (nI r)), some (.int (nI f)), some (.int (nI N))] [.int 0] (am_hh X S L) _
    refine ax_if_ne rfl (fun c2 => False.elim (by revert c2; decide)) (fun c2 => ?_)
    refine ax_s (pc' := 21) (st' := [.int (nI r)]) rfl rfl rfl rfl ?_
    refine ax_call (vs := [.int (nI r)]) (rr := []) rfl rfl rfl ?_
    refine ct_isRow ?_
    show am_ex (d + 9) 114 24 [some (.ref 5), some (.int (nI j)), some (.int 4), some (.int (nI r)), some (.int (nI f)), some (.int (nI N))] [.int (bI (decide (¬ (nI r) < 0 ∧ ¬ 8 ≤ (nI r))))] (am_hh X S L) _
    refine ax_pF rfl (fun c3 => ?_) (fun c3 => ?_)
    · refine ax_s (pc' := 40) (st' := [.int (-1000001)]) rfl rfl rfl rfl ?_
      refine ax_r rfl rfl rfl ?_
      first | exact absurd (hg.2.1) c3 | exact absurd c3 (hg.2.1) | exact absurd (hg.2.1) (ne_true_of_eq_false c3)
    · refine ax_s (pc' := 29) (st' := [.int (nI N)]) rfl rfl rfl rfl ?_
      refine ax_s (pc' := 30) (st' := [.int 1, .int (nI N)]) rfl rfl rfl rfl ?_
      refine ax_s (pc' := 32) (st' := [.int 12, .int 1, .int (nI N)]) rfl rfl rfl rfl ?_
      refine ax_call (vs := [.int (nI N), .int 1, .int 12]) (rr := []) rfl rfl rfl ?_
      refine ct_isOutside ?_
      show am_ex (d + 9) 114 35 [some (.ref 5), some (.int (nI j)), some (.int 4), some (.int (nI r)), some (.int (nI f)), some (.int (nI N))] [.int (bI (decide ((nI N) < 1 ∨ 12 < (nI N))))] (am_hh X S L) _
      refine ax_pF rfl (fun c4 => ?_) (fun c4 => ?_)
      · refine ax_s (pc' := 42) (st' := [.ref 5]) rfl rfl rfl rfl ?_
        refine ax_get rfl (hh_5 _ _ _) rfl rfl rfl ?_
        show am_ex (d + 9) 114 45 [some (.ref 5), some (.int (nI j)), some (.int 4), some (.int (nI r)), some (.int (nI f)), some (.int (nI N))] [.ref 6] (am_hh X S L) _
        refine ax_s (pc' := 46) (st' := [.int (nI r), .ref 6]) rfl rfl rfl rfl ?_
        refine ax_call (vs := [.ref 6, .int (nI r)]) (rr := []) rfl rfl rfl ?_
        refine kt_isMissing rfl (x1 c1 c3 c4) ?_
        show am_ex (d + 9) 114 49 [some (.ref 5), some (.int (nI j)), some (.int 4), some (.int (nI r)), some (.int (nI f)), some (.int (nI N))] [.int (bI (decide ((S 17 r) = -1)))] (am_hh X S L) _
        refine ax_pF rfl (fun c5 => ?_) (fun c5 => ?_)
        · refine ax_s (pc' := 59) (st' := [.ref 5]) rfl rfl rfl rfl ?_
          refine ax_get rfl (hh_5 _ _ _) rfl rfl rfl ?_
          show am_ex (d + 9) 114 62 [some (.ref 5), some (.int (nI j)), some (.int 4), some (.int (nI r)), some (.int (nI f)), some (.int (nI N))] [.ref 6] (am_hh X S L) _
          refine ax_s (pc' := 63) (st' := [.int (nI r), .ref 6]) rfl rfl rfl rfl ?_
          refine ax_s (pc' := 65) (st' := [.int (nI f), .int (nI r), .ref 6]) rfl rfl rfl rfl ?_
          refine ax_s (pc' := 67) (st' := [.int (nI N), .int (nI f), .int (nI r), .ref 6]) rfl rfl rfl rfl ?_
          refine ax_call (vs := [.ref 6, .int (nI r), .int (nI f), .int (nI N)]) (rr := []) rfl rfl rfl ?_
          refine kt_hasPlaces rfl (x1 c1 c3 c4) ?_
          show am_ex (d + 9) 114 70 [some (.ref 5), some (.int (nI j)), some (.int 4), some (.int (nI r)), some (.int (nI f)), some (.int (nI N))] [.int (bI (decide (¬ (nI f) < 0 ∧ ¬ (nI N) < 0 ∧ ¬ (S 17 r) < (nI f) ∧ ¬ (S 17 r) - (nI f) < (nI N))))] (am_hh X S L) _
          refine ax_pT rfl (fun c6 => ?_) (fun c6 => ?_)
          · refine ax_s (pc' := 80) (st' := [.ref 5]) rfl rfl rfl rfl ?_
            refine ax_s (pc' := 81) (st' := [.ref 5, .ref 5]) rfl rfl rfl rfl ?_
            refine ax_get rfl (hh_5 _ _ _) rfl rfl rfl ?_
            show am_ex (d + 9) 114 84 [some (.ref 5), some (.int (nI j)), some (.int 4), some (.int (nI r)), some (.int (nI f)), some (.int (nI N))] [.ref 280, .ref 5] (am_hh X S L) _
            refine ax_s (pc' := 85) (st' := [.int (nI j), .ref 280, .ref 5]) rfl rfl rfl rfl ?_
            refine ax_s (pc' := 86) (st' := [.int 4, .int (nI j), .ref 280, .ref 5]) rfl rfl rfl rfl ?_
            refine ax_s (pc' := 87) (st' := [.ref 5, .int 4, .int (nI j), .ref 280, .ref 5]) rfl rfl rfl rfl ?_
            refine ax_get rfl (hh_5 _ _ _) rfl rfl rfl ?_
            show am_ex (d + 9) 114 90 [some (.ref 5), some (.int (nI j)), some (.int 4), some (.int (nI r)), some (.int (nI f)), some (.int (nI N))] [.ref 6, .int 4, .int (nI j), .ref 280, .ref 5] (am_hh X S L) _
            refine ax_get rfl (hh_6 _ _ _) rfl rfl rfl ?_
            show am_ex (d + 9) 114 93 [some (.ref 5), some (.int (nI j)), some (.int 4), some (.int (nI r)), some (.int (nI f)), some (.int (nI N))] [.ref 7, .int 4, .int (nI j), .ref 280, .ref 5] (am_hh X S L) _
            refine ax_s (pc' := 94) (st' := [.int (nI r), .ref 7, .int 4, .int (nI j), .ref 280, .ref 5]) rfl rfl rfl rfl ?_
            refine ax_qld (j := r) (b := (8 + 1 * r)) rfl (hh_7 _ _ _) rfl (by decide) rfl x2 (by decide) (if_pos x2) ?_
            refine ax_s (pc' := 97) (st' := [.int (nI f), .ref (8 + 1 * r), .int 4, .int (nI j), .ref 280, .ref 5]) rfl rfl rfl rfl ?_
            refine ax_s (pc' := 99) (st' := [.int (nI N), .int (nI f), .ref (8 + 1 * r), .int 4, .int (nI j), .ref 280, .ref 5]) rfl rfl rfl rfl ?_
            refine ax_call (vs := [.ref 280, .int (nI j), .int 4, .ref (8 + 1 * r), .int (nI f), .int (nI N)]) (rr := [.ref 5]) rfl rfl rfl ?_
            refine kt_guess4 hr hfN ht hf hc9 hc0 hj (fun W7 h7 => ?_)
            show am_ex (d + 9) 114 102 [some (.ref 5), some (.int (nI j)), some (.int 4), some (.int (nI r)), some (.int (nI f)), some (.int (nI N))] [.int (gl (fun v => w_ls g n t N 0 (am_u (am_sub S 20) 0 1 (nI v))) 99 1 (-1000000)), .ref 5] (am_hh X (am_ovl S 29 W7) L) _
            refine ax_call (vs := [.ref 5, .int (gl (fun v => w_ls g n t N 0 (am_u (am_sub S 20) 0 1 (nI v))) 99 1 (-1000000))]) (rr := []) rfl rfl rfl ?_
            refine ax_in (ls := [some (.ref 5), some (.int (gl (fun v => w_ls g n t N 0 (am_u (am_sub S 20) 0 1 (nI v))) 99 1 (-1000000)))]) rfl ?_
            refine ax_s (pc' := 1) (st' := [.ref 5]) rfl rfl rfl rfl ?_
            refine ax_s (pc' := 2) (st' := [.int 0, .ref 5]) rfl rfl rfl rfl ?_
            refine ax_put rfl (hh_5 _ _ _) rfl rfl (show 12 + 1 ≤ _ from Nat.le_of_ble_eq_true rfl) rfl (am_hh_setO (i := 12) (v := 0) _ _ _ _ (by decide) rfl) ?_
            refine ax_s (pc' := 6) (st' := [.int (gl (fun v => w_ls g n t N 0 (am_u (am_sub S 20) 0 1 (nI v))) 99 1 (-1000000))]) rfl rfl rfl rfl ?_
            refine ax_r rfl rfl rfl ?_
            show am_ex (d + 9) 114 105 [some (.ref 5), some (.int (nI j)), some (.int 4), some (.int (nI r)), some (.int (nI f)), some (.int (nI N))] [.int (gl (fun v => w_ls g n t N 0 (am_u (am_sub S 20) 0 1 (nI v))) 99 1 (-1000000))] (am_hh X (am_ovl (am_u S 5 12 0) 29 W7) L) _
            refine ax_r rfl rfl rfl ?_
            exact k1 W7 h7
          · refine ax_s (pc' := 74) (st' := [.ref 5]) rfl rfl rfl rfl ?_
            refine ax_s (pc' := 75) (st' := [.int 2, .ref 5]) rfl rfl rfl rfl ?_
            refine ax_call (vs := [.ref 5, .int 2]) (rr := []) rfl rfl rfl ?_
            refine ax_in (ls := [some (.ref 5), some (.int 2)]) rfl ?_
            refine ax_s (pc' := 1) (st' := [.ref 5]) rfl rfl rfl rfl ?_
            refine ax_s (pc' := 2) (st' := [.int 2, .ref 5]) rfl rfl rfl rfl ?_
            refine ax_put rfl (hh_5 _ _ _) rfl rfl (show 12 + 1 ≤ _ from Nat.le_of_ble_eq_true rfl) rfl (am_hh_set _ _ _ 5 12 _ rfl) ?_
            refine ax_s (pc' := 8) (st' := [.int (-1000010)]) rfl rfl rfl rfl ?_
            refine ax_s (pc' := 9) (st' := [.int 2, .int (-1000010)]) rfl rfl rfl rfl ?_
            refine ax_s (pc' := 10) (st' := [.int (-1000012)]) rfl rfl rfl rfl ?_
            refine ax_r rfl rfl rfl ?_
            show am_ex (d + 9) 114 78 [some (.ref 5), some (.int (nI j)), some (.int 4), some (.int (nI r)), some (.int (nI f)), some (.int (nI N))] [.int (-1000012)] (am_hh X (am_u S 5 12 2) L) _
            refine ax_r rfl rfl rfl ?_
            first | exact absurd (hg.2.2.2.2) c6 | exact absurd c6 (hg.2.2.2.2) | exact absurd (hg.2.2.2.2) (ne_true_of_eq_false c6)
        · refine ax_s (pc' := 53) (st' := [.ref 5]) rfl rfl rfl rfl ?_
          refine ax_s (pc' := 54) (st' := [.int 1, .ref 5]) rfl rfl rfl rfl ?_
          refine ax_call (vs := [.ref 5, .int 1]) (rr := []) rfl rfl rfl ?_
          refine ax_in (ls := [some (.ref 5), some (.int 1)]) rfl ?_
          refine ax_s (pc' := 1) (st' := [.ref 5]) rfl rfl rfl rfl ?_
          refine ax_s (pc' := 2) (st' := [.int 1, .ref 5]) rfl rfl rfl rfl ?_
          refine ax_put rfl (hh_5 _ _ _) rfl rfl (show 12 + 1 ≤ _ from Nat.le_of_ble_eq_true rfl) rfl (am_hh_set _ _ _ 5 12 _ rfl) ?_
          refine ax_s (pc' := 8) (st' := [.int (-1000010)]) rfl rfl rfl rfl ?_
          refine ax_s (pc' := 9) (st' := [.int 1, .int (-1000010)]) rfl rfl rfl rfl ?_
          refine ax_s (pc' := 10) (st' := [.int (-1000011)]) rfl rfl rfl rfl ?_
          refine ax_r rfl rfl rfl ?_
          show am_ex (d + 9) 114 57 [some (.ref 5), some (.int (nI j)), some (.int 4), some (.int (nI r)), some (.int (nI f)), some (.int (nI N))] [.int (-1000011)] (am_hh X (am_u S 5 12 1) L) _
          refine ax_r rfl rfl rfl ?_
          first | exact absurd (hg.2.2.2.1) c5 | exact absurd c5 (hg.2.2.2.1) | exact absurd (hg.2.2.2.1) (ne_true_of_eq_false c5)
      · refine ax_s (pc' := 40) (st' := [.int (-1000001)]) rfl rfl rfl rfl ?_
        refine ax_r rfl rfl rfl ?_
        first | exact absurd (hg.2.2.1) c4 | exact absurd c4 (hg.2.2.1) | exact absurd (hg.2.2.1) (ne_true_of_eq_false c4)
theorem wv_m_who4 {d : Nat} {X : Nat × (Nat → Int32)} {S : Nat → Nat → Int32} {L : Nat → Int64} {g n r f N j : Nat} {t : Nat → Int32} {W : Nat → Nat → Int32} {Q : Option Value → am_H → Prop} (hR : mR W (am_u S 285 3 0) 293 g n) (hK : JK (am_u S 285 3 0)) (hr : r < 8) (hfN : f + N ≤ 40) (hf40 : f < 40) (ht : ∀ i, i < N → (am_u S 285 3 0) 288 (40 * r + f + i) = t i) (hj : j < 6)  (hg : (¬ (nI j) < 0 ∧ ¬ (S 285 7) - 1 < (nI j)) ∧ (¬ (nI r) < 0 ∧ ¬ 7 < (nI r)) ∧ (¬ (nI N) < 1 ∧ ¬ 12 < (nI N)) ∧ 0 ≤ (S 287 r) ∧ (¬ (nI f) < 0 ∧ ¬ (nI N) < 0 ∧ ¬ (S 287 r) < (nI N) ∧ ¬ (S 287 r) - (nI N) < (nI f))) (x1 : ¬ (nI j) < 0 ∧ ¬ (S 285 7) - 1 < (nI j) → ¬ (nI r) < 0 ∧ ¬ 7 < (nI r) → ¬ (nI N) < 1 ∧ ¬ 12 < (nI N) → r < 8) (k1 : ∀ S7 : Nat → Nat → Int32, F8 (am_u S 285 3 0) S7 → Q (some (.int (dl (fun v => w_ls g n t N 0 (am_u W 0 1 (nI v))) 99 (-1000000)))) (am_hh X S7 L)) : am_mt (d + 10) 212 [.ref 285, .int (nI j), .int 4, .int (nI r), .int (nI f), .int (nI N)] (am_hh X S L) Q := by
  refine ax_in (ls := [some (.ref 285), some (.int (nI j)), some (.int 4), some (.int (nI r)), some (.int (nI f)), some (.int (nI N)), none]) rfl ?_
  refine ax_s (pc' := 1) (st' := [.ref 285]) rfl rfl rfl rfl ?_
  refine ax_s (pc' := 2) (st' := [.int (nI j), .ref 285]) rfl rfl rfl rfl ?_
  refine ax_call (vs := [.ref 285, .int (nI j)]) (rr := []) rfl rfl rfl ?_
  refine mt_isParty  ?_
  show am_ex (d + 10) 212 5 [some (.ref 285), some (.int (nI j)), some (.int 4), some (.int (nI r)), some (.int (nI f)), some (.int (nI N)), none] [.int (bI (decide (¬ (nI j) < 0 ∧ ¬ (S 285 7) - 1 < (nI j))))] (am_hh X S L) _
  refine ax_pF rfl (fun c1 => ?_) (fun c1 => ?_)
  · refine ax_s (pc' := 38) (st' := [.int (-1000001)]) rfl rfl rfl rfl ?_
    refine ax_r rfl rfl rfl ?_
    first | exact absurd (hg.1) c1 | exact absurd c1 (hg.1) | exact absurd (hg.1) (ne_true_of_eq_false c1)
  · refine ax_s (pc' := 9) (st' := [.int 4]) rfl rfl rfl rfl ?_
    refine ax_s (pc' := 10) (st' := [.int 0, .int 4]) rfl rfl rfl rfl ?_
    refine ax_s (pc' := 11) (st' := [.int 4, .int 0, .int 4]) rfl rfl rfl rfl ?_
    refine ax_call (vs := [.int 4, .int 0, .int 4]) (rr := []) rfl rfl rfl ?_
    refine mt_in ?_
    show am_ex (d + 10) 212 14 [some (.ref 285), some (.int (nI j)), some (.int 4), some (.int (nI r)), some (.int (nI f)), some (.int (nI N)), none] [.int 1] (am_hh X S L) _
    refine ax_if_eq rfl (fun c2 => False.elim (by revert c2; decide)) (fun c2 => ?_)
    refine ax_s (pc' := 18) (st' := [.ref 285]) rfl rfl rfl rfl ?_
    refine ax_s (pc' := 19) (st' := [.int (nI r), .ref 285]) rfl rfl rfl rfl ?_
    refine ax_call (vs := [.ref 285, .int (nI r)]) (rr := []) rfl rfl rfl ?_
    refine mt_isRow ?_
    show am_ex (d + 10) 212 22 [some (.ref 285), some (.int (nI j)), some (.int 4), some (.int (nI r)), some (.int (nI f)), some (.int (nI N)), none] [.int (bI (decide (¬ (nI r) < 0 ∧ ¬ 7 < (nI r))))] (am_hh X S L) _
    refine ax_pF rfl (fun c3 => ?_) (fun c3 => ?_)
    · refine ax_s (pc' := 38) (st' := [.int (-1000001)]) rfl rfl rfl rfl ?_
      refine ax_r rfl rfl rfl ?_
      first | exact absurd (hg.2.1) c3 | exact absurd c3 (hg.2.1) | exact absurd (hg.2.1) (ne_true_of_eq_false c3)
    · refine ax_s (pc' := 27) (st' := [.int (nI N)]) rfl rfl rfl rfl ?_
      refine ax_s (pc' := 28) (st' := [.int 1, .int (nI N)]) rfl rfl rfl rfl ?_
      refine ax_s (pc' := 30) (st' := [.int 12, .int 1, .int (nI N)]) rfl rfl rfl rfl ?_
      refine ax_call (vs := [.int (nI N), .int 1, .int 12]) (rr := []) rfl rfl rfl ?_
      refine mt_in ?_
      show am_ex (d + 10) 212 33 [some (.ref 285), some (.int (nI j)), some (.int 4), some (.int (nI r)), some (.int (nI f)), some (.int (nI N)), none] [.int (bI (decide (¬ (nI N) < 1 ∧ ¬ 12 < (nI N))))] (am_hh X S L) _
      refine ax_pT rfl (fun c4 => ?_) (fun c4 => ?_)
      · refine ax_s (pc' := 40) (st' := [.ref 285]) rfl rfl rfl rfl ?_
        refine ax_get rfl (hh_285 _ _ _) rfl rfl rfl ?_
        show am_ex (d + 10) 212 43 [some (.ref 285), some (.int (nI j)), some (.int 4), some (.int (nI r)), some (.int (nI f)), some (.int (nI N)), none] [.ref 287] (am_hh X S L) _
        refine ax_s (pc' := 44) (st' := [.int (nI r), .ref 287]) rfl rfl rfl rfl ?_
        refine ax_ald (j := r) (v := (S 287 r)) rfl (hh_287 _ _ _) rfl rfl (x1 c1 c3 c4) (by decide) rfl ?_
        refine ax_if_ge rfl (fun c5 => ?_) (fun c5 => ?_)
        · refine ax_s (pc' := 56) (st' := [.int (nI f)]) rfl rfl rfl rfl ?_
          refine ax_s (pc' := 58) (st' := [.int (nI N), .int (nI f)]) rfl rfl rfl rfl ?_
          refine ax_s (pc' := 59) (st' := [.ref 285, .int (nI N), .int (nI f)]) rfl rfl rfl rfl ?_
          refine ax_get rfl (hh_285 _ _ _) rfl rfl rfl ?_
          show am_ex (d + 10) 212 62 [some (.ref 285), some (.int (nI j)), some (.int 4), some (.int (nI r)), some (.int (nI f)), some (.int (nI N)), none] [.ref 287, .int (nI N), .int (nI f)] (am_hh X S L) _
          refine ax_s (pc' := 63) (st' := [.int (nI r), .ref 287, .int (nI N), .int (nI f)]) rfl rfl rfl rfl ?_
          refine ax_ald (j := r) (v := (S 287 r)) rfl (hh_287 _ _ _) rfl rfl (x1 c1 c3 c4) (by decide) rfl ?_
          refine ax_call (vs := [.int (nI f), .int (nI N), .int (S 287 r)]) (rr := []) rfl rfl rfl ?_
          refine mt_isPart ?_
          show am_ex (d + 10) 212 67 [some (.ref 285), some (.int (nI j)), some (.int 4), some (.int (nI r)), some (.int (nI f)), some (.int (nI N)), none] [.int (bI (decide (¬ (nI f) < 0 ∧ ¬ (nI N) < 0 ∧ ¬ (S 287 r) < (nI N) ∧ ¬ (S 287 r) - (nI N) < (nI f))))] (am_hh X S L) _
          refine ax_pT rfl (fun c6 => ?_) (fun c6 => ?_)
          · refine ax_s (pc' := 77) (st' := [.ref 285]) rfl rfl rfl rfl ?_
            refine ax_s (pc' := 78) (st' := [.int 0, .ref 285]) rfl rfl rfl rfl ?_
            refine ax_put rfl (hh_285 _ _ _) rfl rfl (show 3 + 1 ≤ _ from Nat.le_of_ble_eq_true rfl) rfl (am_hh_set _ _ _ 285 3 _ rfl) ?_
            refine ax_s (pc' := 83) (st' := [.int 40]) rfl rfl rfl rfl ?_
            refine ax_s (pc' := 84) (st' := [.int (nI r), .int 40]) rfl rfl rfl rfl ?_
            refine ax_s (pc' := 85) (st' := [.int (40 * (nI r))]) rfl rfl rfl rfl ?_
            refine ax_s (pc' := 87) (st' := [.int (nI f), .int (40 * (nI r))]) rfl rfl rfl rfl ?_
            refine ax_s (pc' := 88) (st' := [.int ((40 * (nI r)) + (nI f))]) rfl rfl rfl rfl ?_
            refine ax_s (pc' := 90) (ls' := [some (.ref 285), some (.int (nI j)), some (.int 4), some (.int (nI r)), some (.int (nI f)), some (.int (nI N)), some (.int ((40 * (nI r)) + (nI f)))]) (st' := []) rfl rfl rfl rfl ?_
            refine ax_s (pc' := 91) (st' := [.int 4]) rfl rfl rfl rfl ?_
            refine ax_s (pc' := 162) (ls' := [some (.ref 285), some (.int (nI j)), some (.int 4), some (.int (nI r)), some (.int (nI f)), some (.int (nI N)), some (.int ((40 * (nI r)) + (nI f)))]) (st' := []) (h1 := (am_hh X (am_u S 285 3 0) L)) rfl rfl rfl rfl ?_
            refine ax_s (pc' := 163) (st' := [.ref 285]) rfl rfl rfl rfl ?_
            refine ax_s (pc' := 164) (st' := [.int 4, .ref 285]) rfl rfl rfl rfl ?_
            refine ax_s (pc' := 165) (st' := [.int (nI r), .int 4, .ref 285]) rfl rfl rfl rfl ?_
            refine ax_s (pc' := 167) (st' := [.int (nI f), .int (nI r), .int 4, .ref 285]) rfl rfl rfl rfl ?_
            refine ax_s (pc' := 169) (st' := [.int (nI N), .int (nI f), .int (nI r), .int 4, .ref 285]) rfl rfl rfl rfl ?_
            refine ax_call (vs := [.ref 285, .int 4, .int (nI r), .int (nI f), .int (nI N)]) (rr := []) rfl rfl rfl ?_
            refine mt_limitsBy4 hR hK hr hfN ht (fun S7 h7 => ?_)
            show am_ex (d + 10) 212 172 [some (.ref 285), some (.int (nI j)), some (.int 4), some (.int (nI r)), some (.int (nI f)), some (.int (nI N)), some (.int ((40 * (nI r)) + (nI f)))] [.int (dl (fun v => w_ls g n t N 0 (am_u W 0 1 (nI v))) 99 (-1000000))] (am_hh X S7 L) _
            refine ax_r rfl rfl rfl ?_
            exact k1 S7 h7
          · refine ax_s (pc' := 71) (st' := [.ref 285]) rfl rfl rfl rfl ?_
            refine ax_s (pc' := 72) (st' := [.int 2, .ref 285]) rfl rfl rfl rfl ?_
            refine ax_call (vs := [.ref 285, .int 2]) (rr := []) rfl rfl rfl ?_
            refine ax_in (ls := [some (.ref 285), some (.int 2)]) rfl ?_
            refine ax_s (pc' := 1) (st' := [.ref 285]) rfl rfl rfl rfl ?_
            refine ax_s (pc' := 2) (st' := [.int 2, .ref 285]) rfl rfl rfl rfl ?_
            refine ax_put rfl (hh_285 _ _ _) rfl rfl (show 3 + 1 ≤ _ from Nat.le_of_ble_eq_true rfl) rfl (am_hh_set _ _ _ 285 3 _ rfl) ?_
            refine ax_s (pc' := 7) (st' := [.int (-1000010)]) rfl rfl rfl rfl ?_
            refine ax_s (pc' := 8) (st' := [.int 2, .int (-1000010)]) rfl rfl rfl rfl ?_
            refine ax_s (pc' := 9) (st' := [.int (-1000012)]) rfl rfl rfl rfl ?_
            refine ax_r rfl rfl rfl ?_
            show am_ex (d + 10) 212 75 [some (.ref 285), some (.int (nI j)), some (.int 4), some (.int (nI r)), some (.int (nI f)), some (.int (nI N)), none] [.int (-1000012)] (am_hh X (am_u S 285 3 2) L) _
            refine ax_r rfl rfl rfl ?_
            first | exact absurd (hg.2.2.2.2) c6 | exact absurd c6 (hg.2.2.2.2) | exact absurd (hg.2.2.2.2) (ne_true_of_eq_false c6)
        · refine ax_s (pc' := 49) (st' := [.ref 285]) rfl rfl rfl rfl ?_
          refine ax_s (pc' := 50) (st' := [.int 1, .ref 285]) rfl rfl rfl rfl ?_
          refine ax_call (vs := [.ref 285, .int 1]) (rr := []) rfl rfl rfl ?_
          refine ax_in (ls := [some (.ref 285), some (.int 1)]) rfl ?_
          refine ax_s (pc' := 1) (st' := [.ref 285]) rfl rfl rfl rfl ?_
          refine ax_s (pc' := 2) (st' := [.int 1, .ref 285]) rfl rfl rfl rfl ?_
          refine ax_put rfl (hh_285 _ _ _) rfl rfl (show 3 + 1 ≤ _ from Nat.le_of_ble_eq_true rfl) rfl (am_hh_set _ _ _ 285 3 _ rfl) ?_
          refine ax_s (pc' := 7) (st' := [.int (-1000010)]) rfl rfl rfl rfl ?_
          refine ax_s (pc' := 8) (st' := [.int 1, .int (-1000010)]) rfl rfl rfl rfl ?_
          refine ax_s (pc' := 9) (st' := [.int (-1000011)]) rfl rfl rfl rfl ?_
          refine ax_r rfl rfl rfl ?_
          show am_ex (d + 10) 212 53 [some (.ref 285), some (.int (nI j)), some (.int 4), some (.int (nI r)), some (.int (nI f)), some (.int (nI N)), none] [.int (-1000011)] (am_hh X (am_u S 285 3 1) L) _
          refine ax_r rfl rfl rfl ?_
          first | exact absurd (hg.2.2.2.1) c5 | exact absurd c5 (hg.2.2.2.1) | exact absurd (hg.2.2.2.1) (ne_true_of_eq_false c5)
      · refine ax_s (pc' := 38) (st' := [.int (-1000001)]) rfl rfl rfl rfl ?_
        refine ax_r rfl rfl rfl ?_
        first | exact absurd (hg.2.2.1) c4 | exact absurd c4 (hg.2.2.1) | exact absurd (hg.2.2.1) (ne_true_of_eq_false c4)
