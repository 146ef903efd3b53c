theorem kt_rb {d : Nat} {X : Nat × (Nat → Int32)} {S W1 : Nat → Nat → Int32} {L : Nat → Int64} {g n N m c : Nat} {Q : Option Value → am_H → Prop} (hR0 : mB (am_sub S 20) g n) (hG0 : wB (am_sub S 20)) (hN4 : N ≤ 4) (hm20 : m ≤ 20) (hc1 : w_cl W1) (hc0 : w_cl (am_sub S 20)) (hQ : ∀ W2, w_cl W2 → Q (some (.int (w_wv (am_sub S 20) g n N m c))) (am_hh X (am_ovl S 29 W2) L)) : am_mt (d + 8) 109 [.ref 281, .int (nI c), .int (nI N), .int (nI m)] (am_hh X (am_ovl S 29 W1) L) Q := by
  have steps : ∀ (k j : Nat) (V : Nat → Nat → Int32), j + k = m → wF V g n → w_cl V → (∀ W2, w_cl W2 → Q (some (.int (w_sum (w_it rk0 g n k V 7) n 0 0))) (am_hh X (am_ovl S 29 W2) L)) → am_ex (d + 8) 109 49 [some (.ref 281), some (.int (nI c)), some (.int (nI N)), some (.int (nI m)), some (.int (nI j))] [] (am_hh X (am_ovl S 29 V) L) Q := by
    intro k
    induction k with
    | zero =>
      intro j V hj hf hc hQ
      exact wl_rb2 hf (fun _ => hQ V hc) (fun c => absurd (nI_le (by omega) (by omega)) c)
    | succ k ih =>
      intro j V hj hf hc hQ
      exact wl_rb2 hf (fun c => absurd c (nI_ge (by omega) (by omega))) (fun _ => ih (j + 1) _ (by omega) (wF_ms hf) (w_cl_ms hf hc) hQ)
  have moves : ∀ (k j : Nat) (V : Nat → Nat → Int32), j + k = N → mB V g n → w_cl V → (∀ W2, w_cl W2 → Q (some (.int (w_sum (w_it rk0 g n m (w_mvs N c k j V) 7) n 0 0))) (am_hh X (am_ovl S 29 W2) L)) → am_ex (d + 8) 109 14 [some (.ref 281), some (.int (nI c)), some (.int (nI N)), some (.int (nI m)), some (.int (nI j))] [] (am_hh X (am_ovl S 29 V) L) Q := by
    intro k
    induction k with
    | zero =>
      intro j V hj hB hc hQ
      obtain ⟨hf, hg4, b, hb, e⟩ := hB
      have hg12 := hf.2.2.2
      exact wl_rb1 e (by omega) (by omega) (fun _ => steps m 0 V (by omega) hf hc hQ) (fun c => absurd (nI_le (by omega) (by omega)) c) (fun c => absurd (nI_le (by omega) (by omega)) c)
    | succ k ih =>
      intro j V hj hB hc hQ
      have hB0 := hB
      obtain ⟨hf, hg4, b, hb, e⟩ := hB
      have hg12 := hf.2.2.2
      have ec : (V 0 2).toNatClampNeg = b := by rw [e]; exact nI_clamp (by omega)
      refine wl_rb1 e (by omega) (by omega) (fun c => absurd c (nI_ge (by omega) (by omega))) (fun _ c => ?_) (fun _ c => ?_)
      · unfold w_mvs at hQ
        rw [if_neg c] at hQ
        exact ih (j + 1) _ (by omega) hB0 hc hQ
      · unfold w_mvs at hQ
        rw [if_pos c, ec] at hQ
        exact ih (j + 1) _ (by omega) (mB_mv hB0) (w_cl_mv hc (by omega)) hQ
  exact wp_rb hc1 hc0 (moves N 0 _ (by omega) hR0 hc0 hQ)
