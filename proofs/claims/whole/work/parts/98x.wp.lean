theorem wl_weighs {d : Nat} {X : Nat × (Nat → Int32)} {S : Nat → Nat → Int32} {L : Nat → Int64} {s j : Nat} {v a : Int32} {Q : Option Value → am_H → Prop}  (x1 : ¬ (S 20 4) ≤ (nI j) → (((nI s) >>> ((nI j) &&& 31)) &&& 1) = 1 → j < 6) (k1 : (S 20 4) ≤ (nI j) → ¬ a = v → Q (some (.int 0)) (am_hh X S L)) (k2 : (S 20 4) ≤ (nI j) → a = v → Q (some (.int 1)) (am_hh X S L)) (k3 : ¬ (S 20 4) ≤ (nI j) → ¬ (((nI s) >>> ((nI j) &&& 31)) &&& 1) = 1 → am_ex (d + 4) 103 5 [some (.ref 20), some (.int (nI s)), some (.int v), some (.int a), some (.int (nI (j + 1)))] [] (am_hh X S L) Q) (k4 : ¬ (S 20 4) ≤ (nI j) → (((nI s) >>> ((nI j) &&& 31)) &&& 1) = 1 → ¬ ((S 25 j) = 2 ∨ (S 25 j) = 3) → am_ex (d + 4) 103 5 [some (.ref 20), some (.int (nI s)), some (.int v), some (.int (a + (S 23 j))), some (.int (nI (j + 1)))] [] (am_hh X S L) Q) (k5 : ¬ (S 20 4) ≤ (nI j) → (((nI s) >>> ((nI j) &&& 31)) &&& 1) = 1 → (S 25 j) = 2 ∨ (S 25 j) = 3 → Q (some (.int 0)) (am_hh X S L)) : am_ex (d + 4) 103 5 [some (.ref 20), some (.int (nI s)), some (.int v), some (.int a), some (.int (nI j))] [] (am_hh X S L) Q := by
  refine ax_s (pc' := 7) (st' := [.int (nI j)]) rfl rfl rfl rfl ?_
  refine ax_s (pc' := 8) (st' := [.ref 20, .int (nI j)]) rfl rfl rfl rfl ?_
  refine ax_get rfl (hh_20 _ _ _) rfl rfl rfl ?_
  show am_ex (d + 4) 103 11 [some (.ref 20), some (.int (nI s)), some (.int v), some (.int a), some (.int (nI j))] [.int (S 20 4), .int (nI j)] (am_hh X S L) _
  refine ax_cmp_ge rfl (fun c1 => ?_) (fun c1 => ?_)
  · refine ax_s (pc' := 52) (st' := [.int a]) rfl rfl rfl rfl ?_
    refine ax_s (pc' := 53) (st' := [.int v, .int a]) rfl rfl rfl rfl ?_
    refine ax_cmp_ne rfl (fun c2 => ?_) (fun c2 => ?_)
    · refine ax_s (pc' := 61) (st' := [.int 0]) rfl rfl rfl rfl ?_
      refine ax_rb (b := false) rfl rfl ?_
      exact k1 c1 c2
    · refine ax_s (pc' := 57) (st' := [.int 1]) rfl rfl rfl rfl ?_
      refine ax_s (pc' := 61) (st' := [.int 1]) rfl rfl rfl rfl ?_
      refine ax_rb (b := true) rfl rfl ?_
      exact k2 c1 c2
  · refine ax_s (pc' := 15) (st' := [.int (nI s)]) rfl rfl rfl rfl ?_
    refine ax_s (pc' := 17) (st' := [.int (nI j), .int (nI s)]) rfl rfl rfl rfl ?_
    refine ax_s (pc' := 18) (st' := [.int ((nI s) >>> ((nI j) &&& 31))]) rfl rfl rfl rfl ?_
    refine ax_s (pc' := 19) (st' := [.int 1, .int ((nI s) >>> ((nI j) &&& 31))]) rfl rfl rfl rfl ?_
    refine ax_s (pc' := 20) (st' := [.int (((nI s) >>> ((nI j) &&& 31)) &&& 1)]) rfl rfl rfl rfl ?_
    refine ax_s (pc' := 21) (st' := [.int 1, .int (((nI s) >>> ((nI j) &&& 31)) &&& 1)]) rfl rfl rfl rfl ?_
    refine ax_cmp_ne rfl (fun c3 => ?_) (fun c3 => ?_)
    · refine ax_s (pc' := 48) (ls' := [some (.ref 20), some (.int (nI s)), some (.int v), some (.int a), some (.int ((nI j) + 1))]) (st' := []) rfl rfl rfl rfl ?_
      rw [nI_1]
      refine ax_s (pc' := 5) (st' := []) rfl rfl rfl rfl ?_
      exact k3 c1 c3
    · refine ax_s (pc' := 25) (st' := [.ref 20]) rfl rfl rfl rfl ?_
      refine ax_s (pc' := 27) (st' := [.int (nI j), .ref 20]) rfl rfl rfl rfl ?_
      refine ax_call (vs := [.ref 20, .int (nI j)]) (rr := []) rfl rfl rfl ?_
      refine kw (am_hh_sub isW20 X S L) (am_hh_sub isW20 X S L).symm (fun _ => ct_hasLeft (am_isW_k isW20 X S L) rfl (x1 c1 c3)) ?_
      show am_ex (d + 4) 103 30 [some (.ref 20), some (.int (nI s)), some (.int v), some (.int a), some (.int (nI j))] [.int (bI (decide ((S 25 j) = 2 ∨ (S 25 j) = 3)))] (am_hh X S L) _
      refine ax_pF rfl (fun c4 => ?_) (fun c4 => ?_)
      · refine ax_s (pc' := 36) (st' := [.int a]) rfl rfl rfl rfl ?_
        refine ax_s (pc' := 37) (st' := [.ref 20, .int a]) rfl rfl rfl rfl ?_
        refine ax_get rfl (hh_20 _ _ _) rfl rfl rfl ?_
        show am_ex (d + 4) 103 40 [some (.ref 20), some (.int (nI s)), some (.int v), some (.int a), some (.int (nI j))] [.ref 23, .int a] (am_hh X S L) _
        refine ax_s (pc' := 42) (st' := [.int (nI j), .ref 23, .int a]) rfl rfl rfl rfl ?_
        refine ax_ald (j := j) (v := (S 23 j)) rfl (hh_23 _ _ _) rfl rfl (x1 c1 c3) (by decide) rfl ?_
        refine ax_s (pc' := 44) (st' := [.int (a + (S 23 j))]) rfl rfl rfl rfl ?_
        refine ax_s (pc' := 45) (ls' := [some (.ref 20), some (.int (nI s)), some (.int v), some (.int (a + (S 23 j))), some (.int (nI j))]) (st' := []) rfl rfl rfl rfl ?_
        refine ax_s (pc' := 48) (ls' := [some (.ref 20), some (.int (nI s)), some (.int v), some (.int (a + (S 23 j))), some (.int ((nI j) + 1))]) (st' := []) rfl rfl rfl rfl ?_
        rw [nI_1]
        refine ax_s (pc' := 5) (st' := []) rfl rfl rfl rfl ?_
        exact k4 c1 c3 c4
      · refine ax_s (pc' := 34) (st' := [.int 0]) rfl rfl rfl rfl ?_
        refine ax_rb (b := false) rfl rfl ?_
        exact k5 c1 c3 c4
theorem wp_weighs {d : Nat} {X : Nat × (Nat → Int32)} {S : Nat → Nat → Int32} {L : Nat → Int64} {s : Nat} {v : Int32} {Q : Option Value → am_H → Prop}  (k1 : am_ex (d + 4) 103 5 [some (.ref 20), some (.int (nI s)), some (.int v), some (.int 0), some (.int 0)] [] (am_hh X S L) Q) : am_mt (d + 4) 103 [.ref 20, .int (nI s), .int v] (am_hh X S L) Q := by
  refine ax_in (ls := [some (.ref 20), some (.int (nI s)), some (.int v), none, none]) rfl ?_
  refine ax_s (pc' := 1) (st' := [.int 0]) rfl rfl rfl rfl ?_
  refine ax_s (pc' := 2) (ls' := [some (.ref 20), some (.int (nI s)), some (.int v), some (.int 0), none]) (st' := []) rfl rfl rfl rfl ?_
  refine ax_s (pc' := 3) (st' := [.int 0]) rfl rfl rfl rfl ?_
  refine ax_s (pc' := 5) (ls' := [some (.ref 20), some (.int (nI s)), some (.int v), some (.int 0), some (.int 0)]) (st' := []) rfl rfl rfl rfl ?_
  exact k1
theorem wl_weightOf {d : Nat} {X : Nat × (Nat → Int32)} {S : Nat → Nat → Int32} {L : Nat → Int64} {s j : Nat} {a : Int32} {Q : Option Value → am_H → Prop}  (x1 : ¬ (S 285 7) ≤ (nI j) → j < 6) (k1 : (S 285 7) ≤ (nI j) → Q (some (.int a)) (am_hh X S L)) (k2 : ¬ (S 285 7) ≤ (nI j) → am_ex (d + 4) 207 4 [some (.ref 285), some (.int (nI s)), some (.int (a + ((((nI s) >>> ((nI j) &&& 31)) &&& 1) * (S 291 j)))), some (.int (nI (j + 1)))] [] (am_hh X S L) Q) : am_ex (d + 4) 207 4 [some (.ref 285), some (.int (nI s)), some (.int a), some (.int (nI j))] [] (am_hh X S L) Q := by
  refine ax_s (pc' := 5) (st' := [.int (nI j)]) rfl rfl rfl rfl ?_
  refine ax_s (pc' := 6) (st' := [.ref 285, .int (nI j)]) rfl rfl rfl rfl ?_
  refine ax_get rfl (hh_285 _ _ _) rfl rfl rfl ?_
  show am_ex (d + 4) 207 9 [some (.ref 285), some (.int (nI s)), some (.int a), some (.int (nI j))] [.int (S 285 7), .int (nI j)] (am_hh X S L) _
  refine ax_cmp_ge rfl (fun c1 => ?_) (fun c1 => ?_)
  · refine ax_s (pc' := 34) (st' := [.int a]) rfl rfl rfl rfl ?_
    refine ax_r rfl rfl rfl ?_
    exact k1 c1
  · refine ax_s (pc' := 13) (st' := [.int a]) rfl rfl rfl rfl ?_
    refine ax_s (pc' := 14) (st' := [.int (nI s), .int a]) rfl rfl rfl rfl ?_
    refine ax_s (pc' := 15) (st' := [.int (nI j), .int (nI s), .int a]) rfl rfl rfl rfl ?_
    refine ax_s (pc' := 16) (st' := [.int ((nI s) >>> ((nI j) &&& 31)), .int a]) rfl rfl rfl rfl ?_
    refine ax_s (pc' := 17) (st' := [.int 1, .int ((nI s) >>> ((nI j) &&& 31)), .int a]) rfl rfl rfl rfl ?_
    refine ax_s (pc' := 18) (st' := [.int (((nI s) >>> ((nI j) &&& 31)) &&& 1), .int a]) rfl rfl rfl rfl ?_
    refine ax_s (pc' := 19) (st' := [.ref 285, .int (((nI s) >>> ((nI j) &&& 31)) &&& 1), .int a]) rfl rfl rfl rfl ?_
    refine ax_get rfl (hh_285 _ _ _) rfl rfl rfl ?_
    show am_ex (d + 4) 207 22 [some (.ref 285), some (.int (nI s)), some (.int a), some (.int (nI j))] [.ref 291, .int (((nI s) >>> ((nI j) &&& 31)) &&& 1), .int a] (am_hh X S L) _
    refine ax_s (pc' := 23) (st' := [.int (nI j), .ref 291, .int (((nI s) >>> ((nI j) &&& 31)) &&& 1), .int a]) rfl rfl rfl rfl ?_
    refine ax_ald (j := j) (v := (S 291 j)) rfl (hh_291 _ _ _) rfl rfl (x1 c1) (by decide) rfl ?_
    refine ax_s (pc' := 25) (st' := [.int ((((nI s) >>> ((nI j) &&& 31)) &&& 1) * (S 291 j)), .int a]) rfl rfl rfl rfl ?_
    refine ax_s (pc' := 26) (st' := [.int (a + ((((nI s) >>> ((nI j) &&& 31)) &&& 1) * (S 291 j)))]) rfl rfl rfl rfl ?_
    refine ax_s (pc' := 27) (ls' := [some (.ref 285), some (.int (nI s)), some (.int (a + ((((nI s) >>> ((nI j) &&& 31)) &&& 1) * (S 291 j)))), some (.int (nI j))]) (st' := []) rfl rfl rfl rfl ?_
    refine ax_s (pc' := 30) (ls' := [some (.ref 285), some (.int (nI s)), some (.int (a + ((((nI s) >>> ((nI j) &&& 31)) &&& 1) * (S 291 j)))), some (.int ((nI j) + 1))]) (st' := []) rfl rfl rfl rfl ?_
    rw [nI_1]
    refine ax_s (pc' := 4) (st' := []) rfl rfl rfl rfl ?_
    exact k2 c1
theorem wp_weightOf {d : Nat} {X : Nat × (Nat → Int32)} {S : Nat → Nat → Int32} {L : Nat → Int64} {s : Nat} {Q : Option Value → am_H → Prop}  (k1 : am_ex (d + 4) 207 4 [some (.ref 285), some (.int (nI s)), some (.int 0), some (.int 0)] [] (am_hh X S L) Q) : am_mt (d + 4) 207 [.ref 285, .int (nI s)] (am_hh X S L) Q := by
  refine ax_in (ls := [some (.ref 285), some (.int (nI s)), none, none]) rfl ?_
  refine ax_s (pc' := 1) (st' := [.int 0]) rfl rfl rfl rfl ?_
  refine ax_s (pc' := 2) (ls' := [some (.ref 285), some (.int (nI s)), some (.int 0), none]) (st' := []) rfl rfl rfl rfl ?_
  refine ax_s (pc' := 3) (st' := [.int 0]) rfl rfl rfl rfl ?_
  refine ax_s (pc' := 4) (ls' := [some (.ref 285), some (.int (nI s)), some (.int 0), some (.int 0)]) (st' := []) rfl rfl rfl rfl ?_
  exact k1
def g_k_sets (S : Nat → Nat → Int32) (p q : Int32) : Prop := ¬ (S 20 4) ≤ 0 ∧ (¬ (p < 0 ∨ 54 < p)) ∧ (¬ (q < 0 ∨ 2 < q))
def eg_k_sets (S : Nat → Nat → Int32) (p q : Int32) : Int32 := (if (S 20 4) ≤ 0 then (-1000002) else (if p < 0 ∨ 54 < p then (-1000001) else (if q < 0 ∨ 2 < q then (-1000001) else 0)))
theorem wg_k_sets {d : Nat} {X : Nat × (Nat → Int32)} {S : Nat → Nat → Int32} {L : Nat → Int64} {p q : Int32} {Q : Option Value → am_H → Prop}   (hb : ¬ g_k_sets S p q) (hQ : Q (some (.int (eg_k_sets S p q))) (am_hh X S L)) : am_mt (d + 6) 101 [.ref 5, .int p, .int q] (am_hh X S L) Q := by
  refine ax_in (ls := [some (.ref 5), some (.int p), some (.int q)]) rfl ?_
  refine ax_s (pc' := 1) (st' := [.ref 5]) rfl rfl rfl rfl ?_
  refine ax_get rfl (hh_5 _ _ _) rfl rfl rfl ?_
  show am_ex (d + 6) 101 4 [some (.ref 5), some (.int p), some (.int q)] [.ref 20] (am_hh X S L) _
  refine ax_call (vs := [.ref 20]) (rr := []) rfl rfl rfl ?_
  refine kw (am_hh_sub isW20 X S L) (am_hh_sub isW20 X S L).symm (fun _ => ct_stands (am_isW_k isW20 X S L)) ?_
  show am_ex (d + 6) 101 7 [some (.ref 5), some (.int p), some (.int q)] [.int (bI (decide (¬ (S 20 4) ≤ 0)))] (am_hh X S L) _
  refine ax_qT rfl (fun c1 => ?_) (fun c1 => ?_)
  · refine ax_s (pc' := 14) (st' := [.int p]) rfl rfl rfl rfl ?_
    refine ax_s (pc' := 15) (st' := [.int 0, .int p]) rfl rfl rfl rfl ?_
    refine ax_s (pc' := 17) (st' := [.int 54, .int 0, .int p]) rfl rfl rfl rfl ?_
    refine ax_call (vs := [.int p, .int 0, .int 54]) (rr := []) rfl rfl rfl ?_
    refine ct_isOutside ?_
    show am_ex (d + 6) 101 20 [some (.ref 5), some (.int p), some (.int q)] [.int (bI (decide (p < 0 ∨ 54 < p)))] (am_hh X S L) _
    refine ax_pT rfl (fun c2 => ?_) (fun c2 => ?_)
    · refine ax_s (pc' := 34) (st' := [.int (-1000001)]) rfl rfl rfl rfl ?_
      refine ax_r rfl rfl rfl ?_
      unfold eg_k_sets at hQ
      rw [if_neg c1, if_pos c2] at hQ
      exact hQ
    · refine ax_s (pc' := 24) (st' := [.int q]) rfl rfl rfl rfl ?_
      refine ax_s (pc' := 25) (st' := [.int 0, .int q]) rfl rfl rfl rfl ?_
      refine ax_s (pc' := 26) (st' := [.int 2, .int 0, .int q]) rfl rfl rfl rfl ?_
      refine ax_call (vs := [.int q, .int 0, .int 2]) (rr := []) rfl rfl rfl ?_
      refine ct_isOutside ?_
      show am_ex (d + 6) 101 29 [some (.ref 5), some (.int p), some (.int q)] [.int (bI (decide (q < 0 ∨ 2 < q)))] (am_hh X S L) _
      refine ax_pF rfl (fun c3 => ?_) (fun c3 => ?_)
      · exact absurd ⟨c1, c2, c3⟩ hb
      · refine ax_s (pc' := 34) (st' := [.int (-1000001)]) rfl rfl rfl rfl ?_
        refine ax_r rfl rfl rfl ?_
        unfold eg_k_sets at hQ
        rw [if_neg c1, if_neg c2, if_pos c3] at hQ
        exact hQ
  · refine ax_s (pc' := 12) (st' := [.int (-1000002)]) rfl rfl rfl rfl ?_
    refine ax_r rfl rfl rfl ?_
    unfold eg_k_sets at hQ
    rw [if_pos c1] at hQ
    exact hQ
def g_m_sets (S : Nat → Nat → Int32) (p q : Int32) : Prop := ¬ ((S 285 8) = 0) ∧ (¬ p < 0 ∧ ¬ 54 < p) ∧ (¬ q < 0 ∧ ¬ 2 < q)
def eg_m_sets (S : Nat → Nat → Int32) (p q : Int32) : Int32 := (if (S 285 8) = 0 then (-1000002) else (if ¬ p < 0 ∧ ¬ 54 < p then (if ¬ q < 0 ∧ ¬ 2 < q then 0 else (-1000001)) else (-1000001)))
theorem wg_m_sets {d : Nat} {X : Nat × (Nat → Int32)} {S : Nat → Nat → Int32} {L : Nat → Int64} {p q : Int32} {Q : Option Value → am_H → Prop}   (hb : ¬ g_m_sets S p q) (hQ : Q (some (.int (eg_m_sets S p q))) (am_hh X S L)) : am_mt (d + 6) 206 [.ref 285, .int p, .int q] (am_hh X S L) Q := by
  refine ax_in (ls := [some (.ref 285), some (.int p), some (.int q), none, none, none, none, none]) rfl ?_
  refine ax_s (pc' := 1) (st' := [.ref 285]) rfl rfl rfl rfl ?_
  refine ax_call (vs := [.ref 285]) (rr := []) rfl rfl rfl ?_
  refine mt_isNone  ?_
  show am_ex (d + 6) 206 4 [some (.ref 285), some (.int p), some (.int q), none, none, none, none, none] [.int (bI (decide ((S 285 8) = 0)))] (am_hh X S L) _
  refine ax_pF rfl (fun c1 => ?_) (fun c1 => ?_)
  · refine ax_s (pc' := 11) (st' := [.int p]) rfl rfl rfl rfl ?_
    refine ax_s (pc' := 12) (st' := [.int 0, .int p]) rfl rfl rfl rfl ?_
    refine ax_s (pc' := 14) (st' := [.int 54, .int 0, .int p]) rfl rfl rfl rfl ?_
    refine ax_call (vs := [.int p, .int 0, .int 54]) (rr := []) rfl rfl rfl ?_
    refine mt_in ?_
    show am_ex (d + 6) 206 17 [some (.ref 285), some (.int p), some (.int q), none, none, none, none, none] [.int (bI (decide (¬ p < 0 ∧ ¬ 54 < p)))] (am_hh X S L) _
    refine ax_pF rfl (fun c2 => ?_) (fun c2 => ?_)
    · refine ax_s (pc' := 31) (st' := [.int (-1000001)]) rfl rfl rfl rfl ?_
      refine ax_r rfl rfl rfl ?_
      unfold eg_m_sets at hQ
      rw [if_neg c1, if_neg c2] at hQ
      exact hQ
    · refine ax_s (pc' := 21) (st' := [.int q]) rfl rfl rfl rfl ?_
      refine ax_s (pc' := 22) (st' := [.int 0, .int q]) rfl rfl rfl rfl ?_
      refine ax_s (pc' := 23) (st' := [.int 2, .int 0, .int q]) rfl rfl rfl rfl ?_
      refine ax_call (vs := [.int q, .int 0, .int 2]) (rr := []) rfl rfl rfl ?_
      refine mt_in ?_
      show am_ex (d + 6) 206 26 [some (.ref 285), some (.int p), some (.int q), none, none, none, none, none] [.int (bI (decide (¬ q < 0 ∧ ¬ 2 < q)))] (am_hh X S L) _
      refine ax_pT rfl (fun c3 => ?_) (fun c3 => ?_)
      · exact absurd ⟨c1, c2, c3⟩ hb
      · refine ax_s (pc' := 31) (st' := [.int (-1000001)]) rfl rfl rfl rfl ?_
        refine ax_r rfl rfl rfl ?_
        unfold eg_m_sets at hQ
        rw [if_neg c1, if_pos c2, if_neg c3] at hQ
        exact hQ
  · refine ax_s (pc' := 9) (st' := [.int (-1000002)]) rfl rfl rfl rfl ?_
    refine ax_r rfl rfl rfl ?_
    unfold eg_m_sets at hQ
    rw [if_pos c1] at hQ
    exact hQ
def g_k_share (S : Nat → Nat → Int32) (p q : Int32) : Prop := (¬ p < 0 ∧ ¬ (S 20 4) ≤ p) ∧ (¬ (q < 0 ∨ 999 < q))
def eg_k_share (S : Nat → Nat → Int32) (p q : Int32) : Int32 := (if ¬ p < 0 ∧ ¬ (S 20 4) ≤ p then (if q < 0 ∨ 999 < q then (-1000001) else 0) else (-1000001))
theorem wg_k_share {d : Nat} {X : Nat × (Nat → Int32)} {S : Nat → Nat → Int32} {L : Nat → Int64} {p q : Int32} {Q : Option Value → am_H → Prop}   (hb : ¬ g_k_share S p q) (hQ : Q (some (.int (eg_k_share S p q))) (am_hh X S L)) : am_mt (d + 6) 104 [.ref 5, .int p, .int q] (am_hh X S L) Q := by
  refine ax_in (ls := [some (.ref 5), some (.int p), some (.int q)]) rfl ?_
  refine ax_s (pc' := 1) (st' := [.ref 5]) rfl rfl rfl rfl ?_
  refine ax_get rfl (hh_5 _ _ _) rfl rfl rfl ?_
  show am_ex (d + 6) 104 4 [some (.ref 5), some (.int p), some (.int q)] [.ref 20] (am_hh X S L) _
  refine ax_s (pc' := 5) (st' := [.int p, .ref 20]) rfl rfl rfl rfl ?_
  refine ax_call (vs := [.ref 20, .int p]) (rr := []) rfl rfl rfl ?_
  refine kw (am_hh_sub isW20 X S L) (am_hh_sub isW20 X S L).symm (fun _ => ct_hasParty (am_isW_k isW20 X S L)) ?_
  show am_ex (d + 6) 104 8 [some (.ref 5), some (.int p), some (.int q)] [.int (bI (decide (¬ p < 0 ∧ ¬ (S 20 4) ≤ p)))] (am_hh X S L) _
  refine ax_pF rfl (fun c1 => ?_) (fun c1 => ?_)
  · refine ax_s (pc' := 24) (st' := [.int (-1000001)]) rfl rfl rfl rfl ?_
    refine ax_r rfl rfl rfl ?_
    unfold eg_k_share at hQ
    rw [if_neg c1] at hQ
    exact hQ
  · refine ax_s (pc' := 12) (st' := [.int q]) rfl rfl rfl rfl ?_
    refine ax_s (pc' := 13) (st' := [.int 0, .int q]) rfl rfl rfl rfl ?_
    refine ax_s (pc' := 16) (st' := [.int 999, .int 0, .int q]) rfl rfl rfl rfl ?_
    refine ax_call (vs := [.int q, .int 0, .int 999]) (rr := []) rfl rfl rfl ?_
    refine ct_isOutside ?_
    show am_ex (d + 6) 104 19 [some (.ref 5), some (.int p), some (.int q)] [.int (bI (decide (q < 0 ∨ 999 < q)))] (am_hh X S L) _
    refine ax_pF rfl (fun c2 => ?_) (fun c2 => ?_)
    · exact absurd ⟨c1, c2⟩ hb
    · refine ax_s (pc' := 24) (st' := [.int (-1000001)]) rfl rfl rfl rfl ?_
      refine ax_r rfl rfl rfl ?_
      unfold eg_k_share at hQ
      rw [if_pos c1, if_pos c2] at hQ
      exact hQ
def g_m_share (S : Nat → Nat → Int32) (p q : Int32) : Prop := (¬ p < 0 ∧ ¬ (S 285 7) - 1 < p) ∧ (¬ q < 0 ∧ ¬ 999 < q)
def eg_m_share (S : Nat → Nat → Int32) (p q : Int32) : Int32 := (if ¬ p < 0 ∧ ¬ (S 285 7) - 1 < p then (if ¬ q < 0 ∧ ¬ 999 < q then 0 else (-1000001)) else (-1000001))
theorem wg_m_share {d : Nat} {X : Nat × (Nat → Int32)} {S : Nat → Nat → Int32} {L : Nat → Int64} {p q : Int32} {Q : Option Value → am_H → Prop}   (hb : ¬ g_m_share S p q) (hQ : Q (some (.int (eg_m_share S p q))) (am_hh X S L)) : am_mt (d + 6) 208 [.ref 285, .int p, .int q] (am_hh X S L) Q := by
  refine ax_in (ls := [some (.ref 285), some (.int p), some (.int q), none, none, none, none]) rfl ?_
  refine ax_s (pc' := 1) (st' := [.ref 285]) rfl rfl rfl rfl ?_
  refine ax_s (pc' := 2) (st' := [.int p, .ref 285]) rfl rfl rfl rfl ?_
  refine ax_call (vs := [.ref 285, .int p]) (rr := []) rfl rfl rfl ?_
  refine mt_isParty  ?_
  show am_ex (d + 6) 208 5 [some (.ref 285), some (.int p), some (.int q), none, none, none, none] [.int (bI (decide (¬ p < 0 ∧ ¬ (S 285 7) - 1 < p)))] (am_hh X S L) _
  refine ax_pF rfl (fun c1 => ?_) (fun c1 => ?_)
  · refine ax_s (pc' := 21) (st' := [.int (-1000001)]) rfl rfl rfl rfl ?_
    refine ax_r rfl rfl rfl ?_
    unfold eg_m_share at hQ
    rw [if_neg c1] at hQ
    exact hQ
  · refine ax_s (pc' := 9) (st' := [.int q]) rfl rfl rfl rfl ?_
    refine ax_s (pc' := 10) (st' := [.int 0, .int q]) rfl rfl rfl rfl ?_
    refine ax_s (pc' := 13) (st' := [.int 999, .int 0, .int q]) rfl rfl rfl rfl ?_
    refine ax_call (vs := [.int q, .int 0, .int 999]) (rr := []) rfl rfl rfl ?_
    refine mt_in ?_
    show am_ex (d + 6) 208 16 [some (.ref 285), some (.int p), some (.int q), none, none, none, none] [.int (bI (decide (¬ q < 0 ∧ ¬ 999 < q)))] (am_hh X S L) _
    refine ax_pT rfl (fun c2 => ?_) (fun c2 => ?_)
    · exact absurd ⟨c1, c2⟩ hb
    · refine ax_s (pc' := 21) (st' := [.int (-1000001)]) rfl rfl rfl rfl ?_
      refine ax_r rfl rfl rfl ?_
      unfold eg_m_share at hQ
      rw [if_pos c1, if_neg c2] at hQ
      exact hQ
