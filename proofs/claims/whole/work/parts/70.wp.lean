theorem wl_goOn {d : Nat} {X : Nat × (Nat → Int32)} {S : Nat → Nat → Int32} {L : Nat → Int64} {g n : Nat} {W1 : Nat → Nat → Int32} {p : Int32} {j : Nat} {Q : Option Value → am_H → Prop} (hf : wF W1 g n)  (k1 : p ≤ (nI j) → Q none (am_hh X (am_ovl S 29 W1) L)) (k2 : ¬ p ≤ (nI j) → am_ex (d + 6) 81 13 [some (.ref 276), some (.int p), some (.int (nI (j + 1)))] [] (am_hh X (am_ovl S 29 (w_ms W1 rk0 g n)) L) Q) : am_ex (d + 6) 81 13 [some (.ref 276), some (.int p), some (.int (nI j))] [] (am_hh X (am_ovl S 29 W1) L) Q := by
  refine ax_s (pc' := 14) (st' := [.int (nI j)]) rfl rfl rfl rfl ?_
  refine ax_s (pc' := 15) (st' := [.int p, .int (nI j)]) rfl rfl rfl rfl ?_
  refine ax_cmp_ge rfl (fun c1 => ?_) (fun c1 => ?_)
  · refine ax_r rfl rfl rfl ?_
    exact k1 c1
  · refine ax_s (pc' := 19) (st' := [.ref 276]) rfl rfl rfl rfl ?_
    refine ax_get rfl (hh_276 _ _ _) rfl rfl rfl ?_
    show am_ex (d + 6) 81 22 [some (.ref 276), some (.int p), some (.int (nI j))] [.ref 29] (am_hh X (am_ovl S 29 W1) L) _
    refine ax_s (pc' := 25) (st' := [.ref 1, .ref 29]) rfl rfl rfl rfl ?_
    refine ax_call (vs := [.ref 29, .ref 1]) (rr := []) rfl rfl rfl ?_
    refine kw (am_hh_ov isW29 X S L W1).symm (am_hh_ov isW29 X S L _) (fun _ => ct_makeStep (rk := rk0) (am_isW_k isW29 X S L) hf.1 hf.2.1 hf.2.2.1 hf.2.2.2 (hh_s1 _ _ _) (by decide) (show 1 < 301 + 5 by decide)) ?_
    show am_ex (d + 6) 81 28 [some (.ref 276), some (.int p), some (.int (nI j))] [.int (bI (w_mb W1 rk0 g n))] (am_hh X (am_ovl S 29 (w_ms W1 rk0 g n)) L) _
    refine ax_s (pc' := 29) (st' := []) rfl rfl rfl rfl ?_
    refine ax_s (pc' := 32) (ls' := [some (.ref 276), some (.int p), some (.int ((nI j) + 1))]) (st' := []) rfl rfl rfl rfl ?_
    rw [nI_1]
    refine ax_s (pc' := 13) (st' := []) rfl rfl rfl rfl ?_
    exact k2 c1
theorem wp_goOn {d : Nat} {X : Nat × (Nat → Int32)} {S : Nat → Nat → Int32} {L : Nat → Int64} {g n : Nat} {p : Int32} {Q : Option Value → am_H → Prop} (hf : wF (am_sub S 20) g n) (hc9 : w_cl (am_sub S 29)) (hc0 : w_cl (am_sub S 20))  (k1 : am_ex (d + 6) 81 13 [some (.ref 276), some (.int p), some (.int 0)] [] (am_hh X (am_ovl S 29 (am_sub S 20)) L) Q) : am_mt (d + 6) 81 [.ref 276, .int p] (am_hh X S L) Q := by
  refine ax_in (ls := [some (.ref 276), some (.int p), none]) rfl ?_
  refine ax_s (pc' := 1) (st' := [.ref 276]) rfl rfl rfl rfl ?_
  refine ax_get rfl (hh_276 _ _ _) rfl rfl rfl ?_
  show am_ex (d + 6) 81 4 [some (.ref 276), some (.int p), none] [.ref 29] (am_hh X S L) _
  refine ax_s (pc' := 5) (st' := [.ref 276, .ref 29]) rfl rfl rfl rfl ?_
  refine ax_get rfl (hh_276 _ _ _) rfl rfl rfl ?_
  show am_ex (d + 6) 81 8 [some (.ref 276), some (.int p), none] [.ref 20, .ref 29] (am_hh X S L) _
  refine ax_call (vs := [.ref 29, .ref 20]) (rr := []) rfl rfl rfl ?_
  refine kt_takeFrom isW29 isW20 (by omega) hc9 hc0 ?_
  show am_ex (d + 6) 81 11 [some (.ref 276), some (.int p), none] [] (am_hh X (am_ovl S 29 (am_sub S 20)) L) _
  refine ax_s (pc' := 12) (st' := [.int 0]) rfl rfl rfl rfl ?_
  refine ax_s (pc' := 13) (ls' := [some (.ref 276), some (.int p), some (.int 0)]) (st' := []) rfl rfl rfl rfl ?_
  exact k1
theorem wl_whenIs {d : Nat} {X : Nat × (Nat → Int32)} {S : Nat → Nat → Int32} {L : Nat → Int64} {g n : Nat} {W1 : Nat → Nat → Int32} {q : Int32} {j k : Nat} {Q : Option Value → am_H → Prop} (hf : wF W1 g n) (hj : j < 6)  (x1 : ¬ 60 < (nI k) → j < 6) (k1 : 60 < (nI k) → Q (some (.int (-1000000))) (am_hh X (am_ovl S 29 W1) L)) (k2 : ¬ 60 < (nI k) → ¬ (W1 5 j) = q → am_ex (d + 6) 84 13 [some (.ref 276), some (.int (nI j)), some (.int q), some (.int (nI (k + 1)))] [] (am_hh X (am_ovl S 29 (w_ms W1 rk0 g n)) L) Q) (k3 : ¬ 60 < (nI k) → (W1 5 j) = q → Q (some (.int (nI k))) (am_hh X (am_ovl S 29 W1) L)) : am_ex (d + 6) 84 13 [some (.ref 276), some (.int (nI j)), some (.int q), some (.int (nI k))] [] (am_hh X (am_ovl S 29 W1) L) Q := by
  refine ax_s (pc' := 14) (st' := [.int (nI k)]) rfl rfl rfl rfl ?_
  refine ax_s (pc' := 16) (st' := [.int 60, .int (nI k)]) rfl rfl rfl rfl ?_
  refine ax_cmp_gt rfl (fun c1 => ?_) (fun c1 => ?_)
  · refine ax_s (pc' := 53) (st' := [.int (-1000000)]) rfl rfl rfl rfl ?_
    refine ax_r rfl rfl rfl ?_
    exact k1 c1
  · refine ax_s (pc' := 20) (st' := [.ref 276]) rfl rfl rfl rfl ?_
    refine ax_get rfl (hh_276 _ _ _) rfl rfl rfl ?_
    show am_ex (d + 6) 84 23 [some (.ref 276), some (.int (nI j)), some (.int q), some (.int (nI k))] [.ref 29] (am_hh X (am_ovl S 29 W1) L) _
    refine ax_get rfl (hh_29 _ _ _) rfl rfl rfl ?_
    show am_ex (d + 6) 84 26 [some (.ref 276), some (.int (nI j)), some (.int q), some (.int (nI k))] [.ref 34] (am_hh X (am_ovl S 29 W1) L) _
    refine ax_s (pc' := 27) (st' := [.int (nI j), .ref 34]) rfl rfl rfl rfl ?_
    refine ax_ald (j := j) (v := (W1 5 j)) rfl (hh_34 _ _ _) rfl rfl (x1 c1) (by decide) rfl ?_
    refine ax_s (pc' := 29) (st' := [.int q, .int (W1 5 j)]) rfl rfl rfl rfl ?_
    refine ax_cmp_ne rfl (fun c2 => ?_) (fun c2 => ?_)
    · refine ax_s (pc' := 35) (st' := [.ref 276]) rfl rfl rfl rfl ?_
      refine ax_get rfl (hh_276 _ _ _) rfl rfl rfl ?_
      show am_ex (d + 6) 84 38 [some (.ref 276), some (.int (nI j)), some (.int q), some (.int (nI k))] [.ref 29] (am_hh X (am_ovl S 29 W1) L) _
      refine ax_s (pc' := 41) (st' := [.ref 1, .ref 29]) rfl rfl rfl rfl ?_
      refine ax_call (vs := [.ref 29, .ref 1]) (rr := []) rfl rfl rfl ?_
      refine kw (am_hh_ov isW29 X S L W1).symm (am_hh_ov isW29 X S L _) (fun _ => ct_makeStep (rk := rk0) (am_isW_k isW29 X S L) hf.1 hf.2.1 hf.2.2.1 hf.2.2.2 (hh_s1 _ _ _) (by decide) (show 1 < 301 + 5 by decide)) ?_
      show am_ex (d + 6) 84 44 [some (.ref 276), some (.int (nI j)), some (.int q), some (.int (nI k))] [.int (bI (w_mb W1 rk0 g n))] (am_hh X (am_ovl S 29 (w_ms W1 rk0 g n)) L) _
      refine ax_s (pc' := 45) (st' := []) rfl rfl rfl rfl ?_
      refine ax_s (pc' := 48) (ls' := [some (.ref 276), some (.int (nI j)), some (.int q), some (.int ((nI k) + 1))]) (st' := []) rfl rfl rfl rfl ?_
      rw [nI_1]
      refine ax_s (pc' := 13) (st' := []) rfl rfl rfl rfl ?_
      exact k2 c1 c2
    · refine ax_s (pc' := 33) (st' := [.int (nI k)]) rfl rfl rfl rfl ?_
      refine ax_r rfl rfl rfl ?_
      exact k3 c1 c2
theorem wp_whenIs {d : Nat} {X : Nat × (Nat → Int32)} {S : Nat → Nat → Int32} {L : Nat → Int64} {g n : Nat} {q : Int32} {j : Nat} {Q : Option Value → am_H → Prop} (hf : wF (am_sub S 20) g n) (hc9 : w_cl (am_sub S 29)) (hc0 : w_cl (am_sub S 20))  (k1 : am_ex (d + 6) 84 13 [some (.ref 276), some (.int (nI j)), some (.int q), some (.int 0)] [] (am_hh X (am_ovl S 29 (am_sub S 20)) L) Q) : am_mt (d + 6) 84 [.ref 276, .int (nI j), .int q] (am_hh X S L) Q := by
  refine ax_in (ls := [some (.ref 276), some (.int (nI j)), some (.int q), none]) rfl ?_
  refine ax_s (pc' := 1) (st' := [.ref 276]) rfl rfl rfl rfl ?_
  refine ax_get rfl (hh_276 _ _ _) rfl rfl rfl ?_
  show am_ex (d + 6) 84 4 [some (.ref 276), some (.int (nI j)), some (.int q), none] [.ref 29] (am_hh X S L) _
  refine ax_s (pc' := 5) (st' := [.ref 276, .ref 29]) rfl rfl rfl rfl ?_
  refine ax_get rfl (hh_276 _ _ _) rfl rfl rfl ?_
  show am_ex (d + 6) 84 8 [some (.ref 276), some (.int (nI j)), some (.int q), none] [.ref 20, .ref 29] (am_hh X S L) _
  refine ax_call (vs := [.ref 29, .ref 20]) (rr := []) rfl rfl rfl ?_
  refine kt_takeFrom isW29 isW20 (by omega) hc9 hc0 ?_
  show am_ex (d + 6) 84 11 [some (.ref 276), some (.int (nI j)), some (.int q), none] [] (am_hh X (am_ovl S 29 (am_sub S 20)) L) _
  refine ax_s (pc' := 12) (st' := [.int 0]) rfl rfl rfl rfl ?_
  refine ax_s (pc' := 13) (ls' := [some (.ref 276), some (.int (nI j)), some (.int q), some (.int 0)]) (st' := []) rfl rfl rfl rfl ?_
  exact k1
theorem wl_firstStuck {d : Nat} {X : Nat × (Nat → Int32)} {S : Nat → Nat → Int32} {L : Nat → Int64} {g n : Nat} {W1 : Nat → Nat → Int32} {k : Nat} {Q : Option Value → am_H → Prop} (hf : wF W1 g n)  (k1 : 60 < (nI k) → Q (some (.int (-1000000))) (am_hh X (am_ovl S 29 W1) L)) (k2 : ¬ 60 < (nI k) → (w_mb W1 rk0 g n) = true → am_ex (d + 6) 86 13 [some (.ref 276), some (.int (nI (k + 1)))] [] (am_hh X (am_ovl S 29 (w_ms W1 rk0 g n)) L) Q) (k3 : ¬ 60 < (nI k) → (w_mb W1 rk0 g n) = false → Q (some (.int (nI k))) (am_hh X (am_ovl S 29 (w_ms W1 rk0 g n)) L)) : am_ex (d + 6) 86 13 [some (.ref 276), some (.int (nI k))] [] (am_hh X (am_ovl S 29 W1) L) Q := by
  refine ax_s (pc' := 14) (st' := [.int (nI k)]) rfl rfl rfl rfl ?_
  refine ax_s (pc' := 16) (st' := [.int 60, .int (nI k)]) rfl rfl rfl rfl ?_
  refine ax_cmp_gt rfl (fun c1 => ?_) (fun c1 => ?_)
  · refine ax_s (pc' := 42) (st' := [.int (-1000000)]) rfl rfl rfl rfl ?_
    refine ax_r rfl rfl rfl ?_
    exact k1 c1
  · refine ax_s (pc' := 20) (st' := [.ref 276]) rfl rfl rfl rfl ?_
    refine ax_get rfl (hh_276 _ _ _) rfl rfl rfl ?_
    show am_ex (d + 6) 86 23 [some (.ref 276), some (.int (nI k))] [.ref 29] (am_hh X (am_ovl S 29 W1) L) _
    refine ax_s (pc' := 26) (st' := [.ref 1, .ref 29]) rfl rfl rfl rfl ?_
    refine ax_call (vs := [.ref 29, .ref 1]) (rr := []) rfl rfl rfl ?_
    refine kw (am_hh_ov isW29 X S L W1).symm (am_hh_ov isW29 X S L _) (fun _ => ct_makeStep (rk := rk0) (am_isW_k isW29 X S L) hf.1 hf.2.1 hf.2.2.1 hf.2.2.2 (hh_s1 _ _ _) (by decide) (show 1 < 301 + 5 by decide)) ?_
    show am_ex (d + 6) 86 29 [some (.ref 276), some (.int (nI k))] [.int (bI (w_mb W1 rk0 g n))] (am_hh X (am_ovl S 29 (w_ms W1 rk0 g n)) L) _
    refine ax_bT rfl (fun c2 => ?_) (fun c2 => ?_)
    · refine ax_s (pc' := 37) (ls' := [some (.ref 276), some (.int ((nI k) + 1))]) (st' := []) rfl rfl rfl rfl ?_
      rw [nI_1]
      refine ax_s (pc' := 13) (st' := []) rfl rfl rfl rfl ?_
      exact k2 c1 c2
    · refine ax_s (pc' := 33) (st' := [.int (nI k)]) rfl rfl rfl rfl ?_
      refine ax_r rfl rfl rfl ?_
      exact k3 c1 c2
theorem wp_firstStuck {d : Nat} {X : Nat × (Nat → Int32)} {S : Nat → Nat → Int32} {L : Nat → Int64} {g n : Nat} {Q : Option Value → am_H → Prop} (hf : wF (am_sub S 20) g n) (hc9 : w_cl (am_sub S 29)) (hc0 : w_cl (am_sub S 20))  (k1 : am_ex (d + 6) 86 13 [some (.ref 276), some (.int 1)] [] (am_hh X (am_ovl S 29 (am_sub S 20)) L) Q) : am_mt (d + 6) 86 [.ref 276] (am_hh X S L) Q := by
  refine ax_in (ls := [some (.ref 276), none]) rfl ?_
  refine ax_s (pc' := 1) (st' := [.ref 276]) rfl rfl rfl rfl ?_
  refine ax_get rfl (hh_276 _ _ _) rfl rfl rfl ?_
  show am_ex (d + 6) 86 4 [some (.ref 276), none] [.ref 29] (am_hh X S L) _
  refine ax_s (pc' := 5) (st' := [.ref 276, .ref 29]) rfl rfl rfl rfl ?_
  refine ax_get rfl (hh_276 _ _ _) rfl rfl rfl ?_
  show am_ex (d + 6) 86 8 [some (.ref 276), none] [.ref 20, .ref 29] (am_hh X S L) _
  refine ax_call (vs := [.ref 29, .ref 20]) (rr := []) rfl rfl rfl ?_
  refine kt_takeFrom isW29 isW20 (by omega) hc9 hc0 ?_
  show am_ex (d + 6) 86 11 [some (.ref 276), none] [] (am_hh X (am_ovl S 29 (am_sub S 20)) L) _
  refine ax_s (pc' := 12) (st' := [.int 1]) rfl rfl rfl rfl ?_
  refine ax_s (pc' := 13) (ls' := [some (.ref 276), some (.int 1)]) (st' := []) rfl rfl rfl rfl ?_
  exact k1
theorem wl_whenOver {d : Nat} {X : Nat × (Nat → Int32)} {S : Nat → Nat → Int32} {L : Nat → Int64} {g n : Nat} {W1 : Nat → Nat → Int32} {k : Nat} {Q : Option Value → am_H → Prop} (hf : wF W1 g n)  (k1 : 60 < (nI k) → Q (some (.int (-1000000))) (am_hh X (am_ovl S 29 W1) L)) (k2 : ¬ 60 < (nI k) → ¬ (w_wh W1 0 n 0 0) = 0 → am_ex (d + 6) 87 13 [some (.ref 276), some (.int (nI (k + 1)))] [] (am_hh X (am_ovl S 29 (w_ms W1 rk0 g n)) L) Q) (k3 : ¬ 60 < (nI k) → (w_wh W1 0 n 0 0) = 0 → ¬ (w_wh W1 1 n 0 0) = 0 → am_ex (d + 6) 87 13 [some (.ref 276), some (.int (nI (k + 1)))] [] (am_hh X (am_ovl S 29 (w_ms W1 rk0 g n)) L) Q) (k4 : ¬ 60 < (nI k) → (w_wh W1 0 n 0 0) = 0 → (w_wh W1 1 n 0 0) = 0 → Q (some (.int (nI k))) (am_hh X (am_ovl S 29 W1) L)) : am_ex (d + 6) 87 13 [some (.ref 276), some (.int (nI k))] [] (am_hh X (am_ovl S 29 W1) L) Q := by
  refine ax_s (pc' := 14) (st' := [.int (nI k)]) rfl rfl rfl rfl ?_
  refine ax_s (pc' := 16) (st' := [.int 60, .int (nI k)]) rfl rfl rfl rfl ?_
  refine ax_cmp_gt rfl (fun c1 => ?_) (fun c1 => ?_)
  · refine ax_s (pc' := 62) (st' := [.int (-1000000)]) rfl rfl rfl rfl ?_
    refine ax_r rfl rfl rfl ?_
    exact k1 c1
  · refine ax_s (pc' := 20) (st' := [.ref 276]) rfl rfl rfl rfl ?_
    refine ax_get rfl (hh_276 _ _ _) rfl rfl rfl ?_
    show am_ex (d + 6) 87 23 [some (.ref 276), some (.int (nI k))] [.ref 29] (am_hh X (am_ovl S 29 W1) L) _
    refine ax_s (pc' := 24) (st' := [.int 0, .ref 29]) rfl rfl rfl rfl ?_
    refine ax_call (vs := [.ref 29, .int 0]) (rr := []) rfl rfl rfl ?_
    refine kw (am_hh_ov isW29 X S L W1).symm (am_hh_ov isW29 X S L W1).symm.symm (fun _ => ct_whichAre (am_isW_k isW29 X S L) hf.1 hf.2.1) ?_
    show am_ex (d + 6) 87 27 [some (.ref 276), some (.int (nI k))] [.int (w_wh W1 0 n 0 0)] (am_hh X (am_ovl S 29 W1) L) _
    refine ax_if_ne rfl (fun c2 => ?_) (fun c2 => ?_)
    · refine ax_s (pc' := 44) (st' := [.ref 276]) rfl rfl rfl rfl ?_
      refine ax_get rfl (hh_276 _ _ _) rfl rfl rfl ?_
      show am_ex (d + 6) 87 47 [some (.ref 276), some (.int (nI k))] [.ref 29] (am_hh X (am_ovl S 29 W1) L) _
      refine ax_s (pc' := 50) (st' := [.ref 1, .ref 29]) rfl rfl rfl rfl ?_
      refine ax_call (vs := [.ref 29, .ref 1]) (rr := []) rfl rfl rfl ?_
      refine kw (am_hh_ov isW29 X S L W1).symm (am_hh_ov isW29 X S L _) (fun _ => ct_makeStep (rk := rk0) (am_isW_k isW29 X S L) hf.1 hf.2.1 hf.2.2.1 hf.2.2.2 (hh_s1 _ _ _) (by decide) (show 1 < 301 + 5 by decide)) ?_
      show am_ex (d + 6) 87 53 [some (.ref 276), some (.int (nI k))] [.int (bI (w_mb W1 rk0 g n))] (am_hh X (am_ovl S 29 (w_ms W1 rk0 g n)) L) _
      refine ax_s (pc' := 54) (st' := []) rfl rfl rfl rfl ?_
      refine ax_s (pc' := 57) (ls' := [some (.ref 276), some (.int ((nI k) + 1))]) (st' := []) rfl rfl rfl rfl ?_
      rw [nI_1]
      refine ax_s (pc' := 13) (st' := []) rfl rfl rfl rfl ?_
      exact k2 c1 c2
    · refine ax_s (pc' := 31) (st' := [.ref 276]) rfl rfl rfl rfl ?_
      refine ax_get rfl (hh_276 _ _ _) rfl rfl rfl ?_
      show am_ex (d + 6) 87 34 [some (.ref 276), some (.int (nI k))] [.ref 29] (am_hh X (am_ovl S 29 W1) L) _
      refine ax_s (pc' := 35) (st' := [.int 1, .ref 29]) rfl rfl rfl rfl ?_
      refine ax_call (vs := [.ref 29, .int 1]) (rr := []) rfl rfl rfl ?_
      refine kw (am_hh_ov isW29 X S L W1).symm (am_hh_ov isW29 X S L W1).symm.symm (fun _ => ct_whichAre (am_isW_k isW29 X S L) hf.1 hf.2.1) ?_
      show am_ex (d + 6) 87 38 [some (.ref 276), some (.int (nI k))] [.int (w_wh W1 1 n 0 0)] (am_hh X (am_ovl S 29 W1) L) _
      refine ax_if_ne rfl (fun c3 => ?_) (fun c3 => ?_)
      · refine ax_s (pc' := 44) (st' := [.ref 276]) rfl rfl rfl rfl ?_
        refine ax_get rfl (hh_276 _ _ _) rfl rfl rfl ?_
        show am_ex (d + 6) 87 47 [some (.ref 276), some (.int (nI k))] [.ref 29] (am_hh X (am_ovl S 29 W1) L) _
        refine ax_s (pc' := 50) (st' := [.ref 1, .ref 29]) rfl rfl rfl rfl ?_
        refine ax_call (vs := [.ref 29, .ref 1]) (rr := []) rfl rfl rfl ?_
        refine kw (am_hh_ov isW29 X S L W1).symm (am_hh_ov isW29 X S L _) (fun _ => ct_makeStep (rk := rk0) (am_isW_k isW29 X S L) hf.1 hf.2.1 hf.2.2.1 hf.2.2.2 (hh_s1 _ _ _) (by decide) (show 1 < 301 + 5 by decide)) ?_
        show am_ex (d + 6) 87 53 [some (.ref 276), some (.int (nI k))] [.int (bI (w_mb W1 rk0 g n))] (am_hh X (am_ovl S 29 (w_ms W1 rk0 g n)) L) _
        refine ax_s (pc' := 54) (st' := []) rfl rfl rfl rfl ?_
        refine ax_s (pc' := 57) (ls' := [some (.ref 276), some (.int ((nI k) + 1))]) (st' := []) rfl rfl rfl rfl ?_
        rw [nI_1]
        refine ax_s (pc' := 13) (st' := []) rfl rfl rfl rfl ?_
        exact k3 c1 c2 c3
      · refine ax_s (pc' := 42) (st' := [.int (nI k)]) rfl rfl rfl rfl ?_
        refine ax_r rfl rfl rfl ?_
        exact k4 c1 c2 c3
theorem wp_whenOver {d : Nat} {X : Nat × (Nat → Int32)} {S : Nat → Nat → Int32} {L : Nat → Int64} {g n : Nat} {Q : Option Value → am_H → Prop} (hf : wF (am_sub S 20) g n) (hc9 : w_cl (am_sub S 29)) (hc0 : w_cl (am_sub S 20))  (k1 : am_ex (d + 6) 87 13 [some (.ref 276), some (.int 0)] [] (am_hh X (am_ovl S 29 (am_sub S 20)) L) Q) : am_mt (d + 6) 87 [.ref 276] (am_hh X S L) Q := by
  refine ax_in (ls := [some (.ref 276), none]) rfl ?_
  refine ax_s (pc' := 1) (st' := [.ref 276]) rfl rfl rfl rfl ?_
  refine ax_get rfl (hh_276 _ _ _) rfl rfl rfl ?_
  show am_ex (d + 6) 87 4 [some (.ref 276), none] [.ref 29] (am_hh X S L) _
  refine ax_s (pc' := 5) (st' := [.ref 276, .ref 29]) rfl rfl rfl rfl ?_
  refine ax_get rfl (hh_276 _ _ _) rfl rfl rfl ?_
  show am_ex (d + 6) 87 8 [some (.ref 276), none] [.ref 20, .ref 29] (am_hh X S L) _
  refine ax_call (vs := [.ref 29, .ref 20]) (rr := []) rfl rfl rfl ?_
  refine kt_takeFrom isW29 isW20 (by omega) hc9 hc0 ?_
  show am_ex (d + 6) 87 11 [some (.ref 276), none] [] (am_hh X (am_ovl S 29 (am_sub S 20)) L) _
  refine ax_s (pc' := 12) (st' := [.int 0]) rfl rfl rfl rfl ?_
  refine ax_s (pc' := 13) (ls' := [some (.ref 276), some (.int 0)]) (st' := []) rfl rfl rfl rfl ?_
  exact k1
