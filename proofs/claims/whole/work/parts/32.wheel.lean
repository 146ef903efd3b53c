theorem ct_letOff {d : Nat} {h : am_H} {w : Nat} {W : Nat → Nat → Int32} {n : Nat} {g : Nat} {Q : Option Value → am_H → Prop} (hk_w : am_wk h w) (hn : W 0 4 = nI n) (hn6 : n ≤ 6) (hg : W 0 0 = nI g) (hg12 : g ≤ 12)  (hQ : Q none (am_ov h w (w_lo W g n))) : am_mt (d + 3) 54 [.ref w] (am_ov h w W) Q := by
  refine ax_in (ls := [some (.ref w), none]) rfl ?_
  refine ax_s (pc' := 1) (st' := [.ref w]) rfl rfl rfl rfl ?_
  refine ax_s (pc' := 2) (st' := [.ref w, .ref w]) rfl rfl rfl rfl ?_
  refine ax_get rfl (am_ov_0 _ _ _) (am_wk_mut0 hk_w) rfl rfl ?_
  show am_ex (d + 3) 54 5 [some (.ref w), none] [.int (W 0 2), .ref w] (am_ov h w W) _
  refine ax_call (vs := [.ref w, .int (W 0 2)]) (rr := []) rfl rfl (am_arg_v (vs := [.ref w, .int (W 0 2)]) (rr := []) (by decide) rfl rfl rfl (Nat.le_of_ble_eq_true rfl) (Nat.le_of_ble_eq_true rfl) (by decide) rfl (am_ov_0 _ _ _) (am_wk_mut0 hk_w) rfl) ?_
  refine ct_partyIn hk_w hn hn6 ?_
  show am_ex (d + 3) 54 8 [some (.ref w), none] [.int (w_pin W (W 0 2) n 0)] (am_ov h w W) _
  refine ax_s (pc' := 9) (ls' := [some (.ref w), some (.int (w_pin W (W 0 2) n 0))]) (st' := []) rfl rfl rfl rfl ?_
  refine ax_s (pc' := 10) (st' := [.int (w_pin W (W 0 2) n 0)]) rfl rfl rfl rfl ?_
  refine ax_s (pc' := 12) (st' := [.int (-1000000), .int (w_pin W (W 0 2) n 0)]) rfl rfl rfl rfl ?_
  refine ax_cmp_eq rfl (fun c12 => ?_) (fun c12 => ?_)
  · refine ax_r rfl rfl rfl ?_
    have epi := w_pi_n hn6 c12
    simpa [w_lo, epi] using hQ
  · obtain ⟨i, hi, epi, ei⟩ := w_pi_s c12
    refine ax_s (pc' := 16) (st' := [.ref w]) rfl rfl rfl rfl ?_
    refine ax_s (pc' := 17) (st' := [.int (w_pin W (W 0 2) n 0), .ref w]) rfl rfl rfl rfl ?_
    refine ax_call (vs := [.ref w, .int (w_pin W (W 0 2) n 0)]) (rr := []) rfl rfl (am_arg_v (vs := [.ref w, .int (w_pin W (W 0 2) n 0)]) (rr := []) (by decide) rfl rfl rfl (Nat.le_of_ble_eq_true rfl) (Nat.le_of_ble_eq_true rfl) (by decide) rfl (am_ov_0 _ _ _) (am_wk_mut0 hk_w) rfl) ?_
    refine ct_isDone hk_w hn hn6 hg hg12 ei (by omega) ?_
    show am_ex (d + 3) 54 20 [some (.ref w), some (.int (w_pin W (W 0 2) n 0))] [.int (bI (w_dn W g n i))] (am_ov h w W) _
    refine ax_bF rfl (fun c20 => ?_) (fun c20 => ?_)
    · refine ax_r rfl rfl rfl ?_
      simpa [w_lo, epi, c20] using hQ
    · refine ax_s (pc' := 24) (st' := [.ref w]) rfl rfl rfl rfl ?_
      refine ax_get rfl (am_ov_0 _ _ _) (am_wk_mut0 hk_w) rfl rfl ?_
      show am_ex (d + 3) 54 27 [some (.ref w), some (.int (w_pin W (W 0 2) n 0))] [.ref (w + 5)] (am_ov h w W) _
      refine ax_s (pc' := 28) (st' := [.int (w_pin W (W 0 2) n 0), .ref (w + 5)]) rfl rfl rfl rfl ?_
      refine ax_s (pc' := 29) (st' := [.int 2, .int (w_pin W (W 0 2) n 0), .ref (w + 5)]) rfl rfl rfl rfl ?_
      refine ax_ast rfl (am_ov_at _ _ _ 5 (by decide)) (am_wk_mut hk_w 5 (by decide)) ei (by omega) (by decide) (am_ov_set _ _ _ 5 i _ (by decide) rfl) ?_
      refine ax_r rfl rfl rfl ?_
      simpa [w_lo, epi, c20] using hQ
theorem lp_letIn {d : Nat} {h : am_H} {w : Nat} {W : Nat → Nat → Int32} {n : Nat} {r : Nat} {rk : Nat → Int32} {Q : Option Value → am_H → Prop} (hk_w : am_wk h w) (hn : W 0 4 = nI n) (hn6 : n ≤ 6) (hr : h.1 r = .inr (.inl (0, 6, rk))) (hro : r < w ∨ w + 9 ≤ r) (hri : r < h.2.1 + 5)  : ∀ (k j : Nat) (x3 : Option Value), j + k = 6 → Q none (am_ov h w (match w_nx W rk k j with | none => W | some i => w_bd W i)) → am_ex (d + 1) 62 16 [some (.ref w), some (.ref r), some (.int (nI j)), x3] [] (am_ov h w W) Q
  | 0, j, x3, hj, hQ => by
    refine ax_s (pc' := 17) (st' := [.int (nI j)]) rfl rfl rfl rfl ?_
    refine ax_s (pc' := 18) (st' := [.ref r, .int (nI j)]) rfl rfl rfl rfl ?_
    refine ax_len rfl ((am_ov_out _ _ _ hro).trans hr) (decide_eq_true hri) ?_
    refine ax_cmp_ge rfl (fun c19 => ?_) (fun c19 => absurd (nI_le (by omega) (by omega)) c19)
    refine ax_r rfl rfl rfl ?_
    exact hQ
  | k + 1, j, x3, hj, hQ => by
    refine ax_s (pc' := 17) (st' := [.int (nI j)]) rfl rfl rfl rfl ?_
    refine ax_s (pc' := 18) (st' := [.ref r, .int (nI j)]) rfl rfl rfl rfl ?_
    refine ax_len rfl ((am_ov_out _ _ _ hro).trans hr) (decide_eq_true hri) ?_
    refine ax_cmp_ge rfl (fun c19 => absurd c19 (nI_ge (by omega) (by omega))) (fun c19 => ?_)
    refine ax_s (pc' := 23) (st' := [.ref r]) rfl rfl rfl rfl ?_
    refine ax_s (pc' := 24) (st' := [.int (nI j), .ref r]) rfl rfl rfl rfl ?_
    refine ax_ald (v := (rk j)) rfl ((am_ov_out _ _ _ hro).trans hr) (decide_eq_true hri) rfl (by omega) (by decide) rfl ?_
    refine ax_s (pc' := 26) (ls' := [some (.ref w), some (.ref r), some (.int (nI j)), some (.int (rk j))]) (st' := []) rfl rfl rfl rfl ?_
    refine ax_s (pc' := 27) (st' := [.ref w]) rfl rfl rfl rfl ?_
    refine ax_s (pc' := 28) (st' := [.int (rk j), .ref w]) rfl rfl rfl rfl ?_
    refine ax_call (vs := [.ref w, .int (rk j)]) (rr := []) rfl rfl (am_arg_v (vs := [.ref w, .int (rk j)]) (rr := []) (by decide) rfl rfl rfl (Nat.le_of_ble_eq_true rfl) (Nat.le_of_ble_eq_true rfl) (by decide) rfl (am_ov_0 _ _ _) (am_wk_mut0 hk_w) rfl) ?_
    refine ct_hasParty hk_w ?_
    show am_ex (d + 1) 62 31 [some (.ref w), some (.ref r), some (.int (nI j)), some (.int (rk j))] [.int (bI (decide (¬ (rk j) < 0 ∧ ¬ W 0 4 ≤ (rk j))))] (am_ov h w W) _
    refine ax_bF rfl (fun c31 => ?_) (fun c31 => ?_)
    · refine ax_s (pc' := 71) (ls' := [some (.ref w), some (.ref r), some (.int ((nI j) + 1)), some (.int (rk j))]) (st' := []) rfl rfl rfl rfl ?_
      rw [nI_1]
      refine ax_s (pc' := 16) (st' := []) rfl rfl rfl rfl ?_
      have e : w_nx W rk (k + 1) j = w_nx W rk k (j + 1) := if_neg (fun q => of_decide_eq_false c31 q.1)
      rw [e] at hQ
      exact lp_letIn hk_w hn hn6 hr hro hri k (j + 1) _ (by omega) hQ
    · obtain ⟨hp1, hp2⟩ := of_decide_eq_true c31
      obtain ⟨i, hi, ei⟩ : ∃ i, i < n ∧ rk j = nI i := by
        obtain ⟨i, hi, e, -⟩ := pk_mu hp1 (by rw [hn] at hp2; exact hp2) (by omega)
        exact ⟨i, hi, e⟩
      refine ax_s (pc' := 35) (st' := [.ref w]) rfl rfl rfl rfl ?_
      refine ax_get rfl (am_ov_0 _ _ _) (am_wk_mut0 hk_w) rfl rfl ?_
      show am_ex (d + 1) 62 38 [some (.ref w), some (.ref r), some (.int (nI j)), some (.int (rk j))] [.ref (w + 5)] (am_ov h w W) _
      refine ax_s (pc' := 39) (st' := [.int (rk j), .ref (w + 5)]) rfl rfl rfl rfl ?_
      refine ax_ald (v := (W 5 i)) rfl (am_ov_at _ _ _ 5 (by decide)) (am_wk_in hk_w 5 (by decide)) ei (by omega) (by decide) rfl ?_
      refine ax_if_ne rfl (fun c40 => ?_) (fun c40 => ?_)
      · refine ax_s (pc' := 71) (ls' := [some (.ref w), some (.ref r), some (.int ((nI j) + 1)), some (.int (rk j))]) (st' := []) rfl rfl rfl rfl ?_
        rw [nI_1]
        refine ax_s (pc' := 16) (st' := []) rfl rfl rfl rfl ?_
        have e : w_nx W rk (k + 1) j = w_nx W rk k (j + 1) := if_neg (fun q => c40 (by have e2 := q.2; rw [ei, nI_clamp (show i < 2 ^ 31 by omega)] at e2; exact e2))
        rw [e] at hQ
        exact lp_letIn hk_w hn hn6 hr hro hri k (j + 1) _ (by omega) hQ
      · refine ax_s (pc' := 44) (st' := [.ref w]) rfl rfl rfl rfl ?_
        refine ax_get rfl (am_ov_0 _ _ _) (am_wk_mut0 hk_w) rfl rfl ?_
        show am_ex (d + 1) 62 47 [some (.ref w), some (.ref r), some (.int (nI j)), some (.int (rk j))] [.ref (w + 5)] (am_ov h w W) _
        refine ax_s (pc' := 48) (st' := [.int (rk j), .ref (w + 5)]) rfl rfl rfl rfl ?_
        refine ax_s (pc' := 49) (st' := [.int 1, .int (rk j), .ref (w + 5)]) rfl rfl rfl rfl ?_
        refine ax_ast rfl (am_ov_at _ _ _ 5 (by decide)) (am_wk_mut hk_w 5 (by decide)) ei (by omega) (by decide) (am_ov_set _ _ _ 5 i _ (by decide) rfl) ?_
        refine ax_s (pc' := 51) (st' := [.ref w]) rfl rfl rfl rfl ?_
        refine ax_get rfl (am_ov_0 _ _ _) (am_wk_mut0 hk_w) rfl rfl ?_
        show am_ex (d + 1) 62 54 [some (.ref w), some (.ref r), some (.int (nI j)), some (.int (rk j))] [.ref (w + 6)] (am_ov h w (am_u W 5 i 1)) _
        refine ax_s (pc' := 55) (st' := [.int (rk j), .ref (w + 6)]) rfl rfl rfl rfl ?_
        refine ax_s (pc' := 56) (st' := [.ref w, .int (rk j), .ref (w + 6)]) rfl rfl rfl rfl ?_
        refine ax_get rfl (am_ov_0 _ _ _) (am_wk_mut0 hk_w) rfl rfl ?_
        show am_ex (d + 1) 62 59 [some (.ref w), some (.ref r), some (.int (nI j)), some (.int (rk j))] [.int (W 0 2), .int (rk j), .ref (w + 6)] (am_ov h w (am_u W 5 i 1)) _
        refine ax_ast rfl (am_ov_at _ _ _ 6 (by decide)) (am_wk_mut hk_w 6 (by decide)) ei (by omega) (by decide) (am_ov_set _ _ _ 6 i _ (by decide) rfl) ?_
        refine ax_s (pc' := 61) (st' := [.ref w]) rfl rfl rfl rfl ?_
        refine ax_get rfl (am_ov_0 _ _ _) (am_wk_mut0 hk_w) rfl rfl ?_
        show am_ex (d + 1) 62 64 [some (.ref w), some (.ref r), some (.int (nI j)), some (.int (rk j))] [.ref (w + 7)] (am_ov h w (am_u (am_u W 5 i 1) 6 i (W 0 2))) _
        refine ax_s (pc' := 65) (st' := [.int (rk j), .ref (w + 7)]) rfl rfl rfl rfl ?_
        refine ax_s (pc' := 66) (st' := [.int 0, .int (rk j), .ref (w + 7)]) rfl rfl rfl rfl ?_
        refine ax_ast rfl (am_ov_at _ _ _ 7 (by decide)) (am_wk_mut hk_w 7 (by decide)) ei (by omega) (by decide) (am_ov_set _ _ _ 7 i _ (by decide) rfl) ?_
        refine ax_r rfl rfl rfl ?_
        have ec : (rk j).toNatClampNeg = i := by rw [ei]; exact nI_clamp (by omega)
        have e : w_nx W rk (k + 1) j = some (rk j).toNatClampNeg := if_pos ⟨⟨hp1, hp2⟩, by rw [ec]; exact c40⟩
        rw [e, ec] at hQ
        exact hQ
theorem ct_letIn {d : Nat} {h : am_H} {w : Nat} {W : Nat → Nat → Int32} {n : Nat} {r : Nat} {rk : Nat → Int32} {Q : Option Value → am_H → Prop} (hk_w : am_wk h w) (hn : W 0 4 = nI n) (hn6 : n ≤ 6) (hr : h.1 r = .inr (.inl (0, 6, rk))) (hro : r < w ∨ w + 9 ≤ r) (hri : r < h.2.1 + 5)  (hQ : Q none (am_ov h w (w_li W rk n))) : am_mt (d + 1) 62 [.ref w, .ref r] (am_ov h w W) Q := by
  refine ax_in (ls := [some (.ref w), some (.ref r), none, none]) rfl ?_
  refine ax_s (pc' := 1) (st' := [.ref w]) rfl rfl rfl rfl ?_
  refine ax_s (pc' := 2) (st' := [.ref w, .ref w]) rfl rfl rfl rfl ?_
  refine ax_get rfl (am_ov_0 _ _ _) (am_wk_mut0 hk_w) rfl rfl ?_
  show am_ex (d + 1) 62 5 [some (.ref w), some (.ref r), none, none] [.int (W 0 2), .ref w] (am_ov h w W) _
  refine ax_call (vs := [.ref w, .int (W 0 2)]) (rr := []) rfl rfl (am_arg_v (vs := [.ref w, .int (W 0 2)]) (rr := []) (by decide) rfl rfl rfl (Nat.le_of_ble_eq_true rfl) (Nat.le_of_ble_eq_true rfl) (by decide) rfl (am_ov_0 _ _ _) (am_wk_mut0 hk_w) rfl) ?_
  refine ct_partyIn hk_w hn hn6 ?_
  show am_ex (d + 1) 62 8 [some (.ref w), some (.ref r), none, none] [.int (w_pin W (W 0 2) n 0)] (am_ov h w W) _
  refine ax_s (pc' := 10) (st' := [.int (-1000000), .int (w_pin W (W 0 2) n 0)]) rfl rfl rfl rfl ?_
  refine ax_cmp_eq rfl (fun c10 => ?_) (fun c10 => ?_)
  · refine ax_s (pc' := 15) (st' := [.int 0]) rfl rfl rfl rfl ?_
    refine ax_s (pc' := 16) (ls' := [some (.ref w), some (.ref r), some (.int 0), none]) (st' := []) rfl rfl rfl rfl ?_
    have epi := w_pi_n hn6 c10
    unfold w_li at hQ
    rw [epi] at hQ
    exact lp_letIn hk_w hn hn6 hr hro hri 6 0 _ (by omega) hQ
  · refine ax_r rfl rfl rfl ?_
    obtain ⟨i, hi, epi, ei⟩ := w_pi_s c10
    unfold w_li at hQ
    rw [epi] at hQ
    exact hQ
theorem lp_waitOn {d : Nat} {h : am_H} {w : Nat} {n : Nat} {Q : Option Value → am_H → Prop} (hk_w : am_wk h w) (hn6 : n ≤ 6) : ∀ (k j : Nat) (W1 : Nat → Nat → Int32), j + k = n → (W1 0 4 = nI n ∧ Q none (am_ov h w (w_wt k j W1))) → am_ex (d + 1) 64 2 [some (.ref w), some (.int (nI j))] [] (am_ov h w W1) Q
  | 0, j, W1, hj, hQ => by
    refine ax_s (pc' := 3) (st' := [.int (nI j)]) rfl rfl rfl rfl ?_
    refine ax_s (pc' := 4) (st' := [.ref w, .int (nI j)]) rfl rfl rfl rfl ?_
    refine ax_get rfl (am_ov_0 _ _ _) (am_wk_mut0 hk_w) rfl rfl ?_
    show am_ex (d + 1) 64 7 [some (.ref w), some (.int (nI j))] [.int (W1 0 4), .int (nI j)] (am_ov h w W1) _
    refine ax_cmp_ge rfl (fun c7 => ?_) (fun c7 => absurd (by rw [hQ.1]; exact nI_le (by omega) (by omega)) c7)
    refine ax_r rfl rfl rfl ?_
    exact hQ.2
  | k + 1, j, W1, hj, hQ => by
    refine ax_s (pc' := 3) (st' := [.int (nI j)]) rfl rfl rfl rfl ?_
    refine ax_s (pc' := 4) (st' := [.ref w, .int (nI j)]) rfl rfl rfl rfl ?_
    refine ax_get rfl (am_ov_0 _ _ _) (am_wk_mut0 hk_w) rfl rfl ?_
    show am_ex (d + 1) 64 7 [some (.ref w), some (.int (nI j))] [.int (W1 0 4), .int (nI j)] (am_ov h w W1) _
    refine ax_cmp_ge rfl (fun c7 => absurd c7 (by rw [hQ.1]; exact nI_ge (by omega) (by omega))) (fun c7 => ?_)
    refine ax_s (pc' := 11) (st' := [.ref w]) rfl rfl rfl rfl ?_
    refine ax_get rfl (am_ov_0 _ _ _) (am_wk_mut0 hk_w) rfl rfl ?_
    show am_ex (d + 1) 64 14 [some (.ref w), some (.int (nI j))] [.ref (w + 5)] (am_ov h w W1) _
    refine ax_s (pc' := 15) (st' := [.int (nI j), .ref (w + 5)]) rfl rfl rfl rfl ?_
    refine ax_ald (v := (W1 5 j)) rfl (am_ov_at _ _ _ 5 (by decide)) (am_wk_in hk_w 5 (by decide)) rfl (by omega) (by decide) rfl ?_
    refine ax_if_ne rfl (fun c16 => ?_) (fun c16 => ?_)
    · refine ax_s (pc' := 47) (ls' := [some (.ref w), some (.int ((nI j) + 1))]) (st' := []) rfl rfl rfl rfl ?_
      rw [nI_1]
      refine ax_s (pc' := 2) (st' := []) rfl rfl rfl rfl ?_
      have e : w_w1 W1 j = W1 := by simp [w_w1, c16]
      refine lp_waitOn hk_w hn6 k (j + 1) _ (by omega) ⟨hQ.1, ?_⟩
      rw [← e]
      exact hQ.2
    · refine ax_s (pc' := 20) (st' := [.ref w]) rfl rfl rfl rfl ?_
      refine ax_get rfl (am_ov_0 _ _ _) (am_wk_mut0 hk_w) rfl rfl ?_
      show am_ex (d + 1) 64 23 [some (.ref w), some (.int (nI j))] [.ref (w + 8)] (am_ov h w W1) _
      refine ax_s (pc' := 24) (st' := [.int (nI j), .ref (w + 8)]) rfl rfl rfl rfl ?_
      refine ax_s (pc' := 25) (st' := [.int (nI j), .ref (w + 8), .int (nI j), .ref (w + 8)]) rfl rfl rfl rfl ?_
      refine ax_ald (v := (W1 8 j)) rfl (am_ov_at _ _ _ 8 (by decide)) (am_wk_in hk_w 8 (by decide)) rfl (by omega) (by decide) rfl ?_
      refine ax_s (pc' := 27) (st' := [.int 1, .int (W1 8 j), .int (nI j), .ref (w + 8)]) rfl rfl rfl rfl ?_
      refine ax_s (pc' := 28) (st' := [.int ((W1 8 j) + 1), .int (nI j), .ref (w + 8)]) rfl rfl rfl rfl ?_
      refine ax_ast rfl (am_ov_at _ _ _ 8 (by decide)) (am_wk_mut hk_w 8 (by decide)) rfl (by omega) (by decide) (am_ov_set _ _ _ 8 j _ (by decide) rfl) ?_
      refine ax_s (pc' := 30) (st' := [.ref w]) rfl rfl rfl rfl ?_
      refine ax_s (pc' := 31) (st' := [.int (nI j), .ref w]) rfl rfl rfl rfl ?_
      refine ax_call (vs := [.ref w, .int (nI j)]) (rr := []) rfl rfl (am_arg_v (vs := [.ref w, .int (nI j)]) (rr := []) (by decide) rfl rfl rfl (Nat.le_of_ble_eq_true rfl) (Nat.le_of_ble_eq_true rfl) (by decide) rfl (am_ov_0 _ _ _) (am_wk_mut0 hk_w) rfl) ?_
      refine ct_hasLostPatience hk_w rfl (by omega) ?_
      show am_ex (d + 1) 64 34 [some (.ref w), some (.int (nI j))] [.int (bI (w_lp (am_u W1 8 j ((W1 8 j) + 1)) j))] (am_ov h w (am_u W1 8 j ((W1 8 j) + 1))) _
      refine ax_bF rfl (fun c34 => ?_) (fun c34 => ?_)
      · refine ax_s (pc' := 47) (ls' := [some (.ref w), some (.int ((nI j) + 1))]) (st' := []) rfl rfl rfl rfl ?_
        rw [nI_1]
        refine ax_s (pc' := 2) (st' := []) rfl rfl rfl rfl ?_
        have e : w_w1 W1 j = (am_u W1 8 j ((W1 8 j) + 1)) := by simp [w_w1, c16, c34]
        refine lp_waitOn hk_w hn6 k (j + 1) _ (by omega) ⟨hQ.1, ?_⟩
        rw [← e]
        exact hQ.2
      · refine ax_s (pc' := 38) (st' := [.ref w]) rfl rfl rfl rfl ?_
        refine ax_get rfl (am_ov_0 _ _ _) (am_wk_mut0 hk_w) rfl rfl ?_
        show am_ex (d + 1) 64 41 [some (.ref w), some (.int (nI j))] [.ref (w + 5)] (am_ov h w (am_u W1 8 j ((W1 8 j) + 1))) _
        refine ax_s (pc' := 42) (st' := [.int (nI j), .ref (w + 5)]) rfl rfl rfl rfl ?_
        refine ax_s (pc' := 43) (st' := [.int 3, .int (nI j), .ref (w + 5)]) rfl rfl rfl rfl ?_
        refine ax_ast rfl (am_ov_at _ _ _ 5 (by decide)) (am_wk_mut hk_w 5 (by decide)) rfl (by omega) (by decide) (am_ov_set _ _ _ 5 j _ (by decide) rfl) ?_
        refine ax_s (pc' := 47) (ls' := [some (.ref w), some (.int ((nI j) + 1))]) (st' := []) rfl rfl rfl rfl ?_
        rw [nI_1]
        refine ax_s (pc' := 2) (st' := []) rfl rfl rfl rfl ?_
        have e : w_w1 W1 j = (am_u (am_u W1 8 j ((W1 8 j) + 1)) 5 j 3) := by simp [w_w1, c16, c34]
        refine lp_waitOn hk_w hn6 k (j + 1) _ (by omega) ⟨hQ.1, ?_⟩
        rw [← e]
        exact hQ.2
theorem ct_waitOn {d : Nat} {h : am_H} {w : Nat} {W : Nat → Nat → Int32} {n : Nat} {Q : Option Value → am_H → Prop} (hk_w : am_wk h w) (hn : W 0 4 = nI n) (hn6 : n ≤ 6)  (hQ : Q none (am_ov h w (w_wt n 0 W))) : am_mt (d + 1) 64 [.ref w] (am_ov h w W) Q := by
  refine ax_in (ls := [some (.ref w), none]) rfl ?_
  refine ax_s (pc' := 1) (st' := [.int 0]) rfl rfl rfl rfl ?_
  refine ax_s (pc' := 2) (ls' := [some (.ref w), some (.int 0)]) (st' := []) rfl rfl rfl rfl ?_
  exact lp_waitOn hk_w hn6 n 0 W (by omega) ⟨hn, hQ⟩
theorem ct_turn {d : Nat} {h : am_H} {w : Nat} {W : Nat → Nat → Int32} {n : Nat} {g : Nat} {Q : Option Value → am_H → Prop} (hk_w : am_wk h w) (hn : W 0 4 = nI n) (hn6 : n ≤ 6) (hg : W 0 0 = nI g) (hg12 : g ≤ 12)  (hQ : Q (some (.int (bI (w_tb W g n)))) (am_ov h w (w_tn W g n))) : am_mt (d + 2) 66 [.ref w] (am_ov h w W) Q := by
  refine ax_in (ls := [some (.ref w), none, none]) rfl ?_
  refine ax_s (pc' := 1) (st' := [.ref w]) rfl rfl rfl rfl ?_
  refine ax_call (vs := [.ref w]) (rr := []) rfl rfl (am_arg_v (vs := [.ref w]) (rr := []) (by decide) rfl rfl rfl (Nat.le_of_ble_eq_true rfl) (Nat.le_of_ble_eq_true rfl) (by decide) rfl (am_ov_0 _ _ _) (am_wk_mut0 hk_w) rfl) ?_
  refine ct_nextOfBottom hk_w ?_
  show am_ex (d + 2) 66 4 [some (.ref w), none, none] [.int (w_nb W)] (am_ov h w W) _
  refine ax_s (pc' := 5) (ls' := [some (.ref w), some (.int (w_nb W)), none]) (st' := []) rfl rfl rfl rfl ?_
  refine ax_s (pc' := 6) (st' := [.ref w]) rfl rfl rfl rfl ?_
  refine ax_s (pc' := 7) (st' := [.ref w, .ref w]) rfl rfl rfl rfl ?_
  refine ax_s (pc' := 8) (st' := [.int (w_nb W), .ref w, .ref w]) rfl rfl rfl rfl ?_
  refine ax_call (vs := [.ref w, .int (w_nb W)]) (rr := [.ref w]) rfl rfl (am_arg_v (vs := [.ref w, .int (w_nb W)]) (rr := [.ref w]) (by decide) rfl rfl rfl (Nat.le_of_ble_eq_true rfl) (Nat.le_of_ble_eq_true rfl) (by decide) rfl (am_ov_0 _ _ _) (am_wk_mut0 hk_w) rfl) ?_
  refine ct_leanWith hk_w hn hn6 hg hg12 ?_
  show am_ex (d + 2) 66 11 [some (.ref w), some (.int (w_nb W)), none] [.int (w_lean W g n (w_nb W)), .ref w] (am_ov h w W) _
  refine ax_call (vs := [.ref w, .int (w_lean W g n (w_nb W))]) (rr := []) rfl rfl (am_arg_v (vs := [.ref w, .int (w_lean W g n (w_nb W))]) (rr := []) (by decide) rfl rfl rfl (Nat.le_of_ble_eq_true rfl) (Nat.le_of_ble_eq_true rfl) (by decide) rfl (am_ov_0 _ _ _) (am_wk_mut0 hk_w) rfl) ?_
  refine ct_isInBalanceBy hk_w ?_
  show am_ex (d + 2) 66 14 [some (.ref w), some (.int (w_nb W)), none] [.int (bI (w_bal W (w_lean W g n (w_nb W))))] (am_ov h w W) _
  refine ax_bT rfl (fun c14 => ?_) (fun c14 => ?_)
  · refine ax_s (pc' := 20) (st' := [.ref w]) rfl rfl rfl rfl ?_
    refine ax_s (pc' := 21) (st' := [.int (w_nb W), .ref w]) rfl rfl rfl rfl ?_
    refine ax_put rfl (am_ov_0 _ _ _) (am_wk_mut0 hk_w) rfl (show 2 + 1 ≤ _ from Nat.le_of_ble_eq_true rfl) rfl (am_ov_set0 _ _ _ 2 _ rfl) ?_
    refine ax_s (pc' := 25) (st' := [.ref w]) rfl rfl rfl rfl ?_
    refine ax_s (pc' := 26) (st' := [.int (w_nb W), .ref w]) rfl rfl rfl rfl ?_
    refine ax_call (vs := [.ref w, .int (w_nb W)]) (rr := []) rfl rfl (am_arg_v (vs := [.ref w, .int (w_nb W)]) (rr := []) (by decide) rfl rfl rfl (Nat.le_of_ble_eq_true rfl) (Nat.le_of_ble_eq_true rfl) (by decide) rfl (am_ov_0 _ _ _) (am_wk_mut0 hk_w) rfl) ?_
    refine ct_partyIn hk_w hn hn6 ?_
    show am_ex (d + 2) 66 29 [some (.ref w), some (.int (w_nb W)), none] [.int (w_pin (am_u W 0 2 (w_nb W)) (w_nb W) n 0)] (am_ov h w (am_u W 0 2 (w_nb W))) _
    refine ax_s (pc' := 30) (ls' := [some (.ref w), some (.int (w_nb W)), some (.int (w_pin (am_u W 0 2 (w_nb W)) (w_nb W) n 0))]) (st' := []) rfl rfl rfl rfl ?_
    refine ax_s (pc' := 31) (st' := [.int (w_pin (am_u W 0 2 (w_nb W)) (w_nb W) n 0)]) rfl rfl rfl rfl ?_
    refine ax_s (pc' := 33) (st' := [.int (-1000000), .int (w_pin (am_u W 0 2 (w_nb W)) (w_nb W) n 0)]) rfl rfl rfl rfl ?_
    refine ax_cmp_eq rfl (fun c33 => ?_) (fun c33 => ?_)
    · refine ax_s (pc' := 58) (st' := [.int 1]) rfl rfl rfl rfl ?_
      refine ax_rb (b := true) rfl rfl ?_
      have e1 : w_tb W g n = true := c14
      have e2 : w_tn W g n = w_t1 (am_u W 0 2 (w_nb W)) n := if_pos e1
      rw [e1, e2] at hQ
      unfold w_t1 at hQ
      have epi := w_pi_n hn6 c33
      rw [show am_u W 0 2 (w_nb W) 0 2 = w_nb W from rfl, epi] at hQ
      exact hQ
    · obtain ⟨i, hi, epi, ei⟩ := w_pi_s c33
      refine ax_s (pc' := 37) (st' := [.ref w]) rfl rfl rfl rfl ?_
      refine ax_get rfl (am_ov_0 _ _ _) (am_wk_mut0 hk_w) rfl rfl ?_
      show am_ex (d + 2) 66 40 [some (.ref w), some (.int (w_nb W)), some (.int (w_pin (am_u W 0 2 (w_nb W)) (w_nb W) n 0))] [.ref (w + 7)] (am_ov h w (am_u W 0 2 (w_nb W))) _
      refine ax_s (pc' := 41) (st' := [.int (w_pin (am_u W 0 2 (w_nb W)) (w_nb W) n 0), .ref (w + 7)]) rfl rfl rfl rfl ?_
      refine ax_ald (v := (W 7 i)) rfl (am_ov_at _ _ _ 7 (by decide)) (am_wk_in hk_w 7 (by decide)) ei (by omega) (by decide) rfl ?_
      refine ax_s (pc' := 44) (st' := [.int 99, .int (W 7 i)]) rfl rfl rfl rfl ?_
      refine ax_cmp_ge rfl (fun c44 => ?_) (fun c44 => ?_)
      · refine ax_s (pc' := 58) (st' := [.int 1]) rfl rfl rfl rfl ?_
        refine ax_rb (b := true) rfl rfl ?_
        have e1 : w_tb W g n = true := c14
        have e2 : w_tn W g n = w_t1 (am_u W 0 2 (w_nb W)) n := if_pos e1
        rw [e1, e2] at hQ
        unfold w_t1 at hQ
        rw [show am_u W 0 2 (w_nb W) 0 2 = w_nb W from rfl, epi] at hQ
        dsimp only at hQ
        rw [if_pos (show 99 ≤ am_u W 0 2 (w_nb W) 7 i from c44)] at hQ
        exact hQ
      · refine ax_s (pc' := 48) (st' := [.ref w]) rfl rfl rfl rfl ?_
        refine ax_get rfl (am_ov_0 _ _ _) (am_wk_mut0 hk_w) rfl rfl ?_
        show am_ex (d + 2) 66 51 [some (.ref w), some (.int (w_nb W)), some (.int (w_pin (am_u W 0 2 (w_nb W)) (w_nb W) n 0))] [.ref (w + 7)] (am_ov h w (am_u W 0 2 (w_nb W))) _
        refine ax_s (pc' := 52) (st' := [.int (w_pin (am_u W 0 2 (w_nb W)) (w_nb W) n 0), .ref (w + 7)]) rfl rfl rfl rfl ?_
        refine ax_s (pc' := 53) (st' := [.int (w_pin (am_u W 0 2 (w_nb W)) (w_nb W) n 0), .ref (w + 7), .int (w_pin (am_u W 0 2 (w_nb W)) (w_nb W) n 0), .ref (w + 7)]) rfl rfl rfl rfl ?_
        refine ax_ald (v := (W 7 i)) rfl (am_ov_at _ _ _ 7 (by decide)) (am_wk_in hk_w 7 (by decide)) ei (by omega) (by decide) rfl ?_
        refine ax_s (pc' := 55) (st' := [.int 1, .int (W 7 i), .int (w_pin (am_u W 0 2 (w_nb W)) (w_nb W) n 0), .ref (w + 7)]) rfl rfl rfl rfl ?_
        refine ax_s (pc' := 56) (st' := [.int ((W 7 i) + 1), .int (w_pin (am_u W 0 2 (w_nb W)) (w_nb W) n 0), .ref (w + 7)]) rfl rfl rfl rfl ?_
        refine ax_ast rfl (am_ov_at _ _ _ 7 (by decide)) (am_wk_mut hk_w 7 (by decide)) ei (by omega) (by decide) (am_ov_set _ _ _ 7 i _ (by decide) rfl) ?_
        refine ax_s (pc' := 58) (st' := [.int 1]) rfl rfl rfl rfl ?_
        refine ax_rb (b := true) rfl rfl ?_
        have e1 : w_tb W g n = true := c14
        have e2 : w_tn W g n = w_t1 (am_u W 0 2 (w_nb W)) n := if_pos e1
        rw [e1, e2] at hQ
        unfold w_t1 at hQ
        rw [show am_u W 0 2 (w_nb W) 0 2 = w_nb W from rfl, epi] at hQ
        dsimp only at hQ
        rw [if_neg (show ¬ 99 ≤ am_u W 0 2 (w_nb W) 7 i from c44)] at hQ
        exact hQ
  · refine ax_s (pc' := 18) (st' := [.int 0]) rfl rfl rfl rfl ?_
    refine ax_rb (b := false) rfl rfl ?_
    have e1 : w_tb W g n = false := c14
    have e2 : w_tn W g n = W := if_neg (by rw [e1]; decide)
    rw [e1, e2] at hQ
    exact hQ
theorem ct_makeStep {d : Nat} {h : am_H} {w : Nat} {W : Nat → Nat → Int32} {n : Nat} {g : Nat} {r : Nat} {rk : Nat → Int32} {Q : Option Value → am_H → Prop} (hk_w : am_wk h w) (hn : W 0 4 = nI n) (hn6 : n ≤ 6) (hg : W 0 0 = nI g) (hg12 : g ≤ 12) (hr : h.1 r = .inr (.inl (0, 6, rk))) (hro : r < w ∨ w + 9 ≤ r) (hri : r < h.2.1 + 5)  (hQ : Q (some (.int (bI (w_mb W rk g n)))) (am_ov h w (w_ms W rk g n))) : am_mt (d + 4) 53 [.ref w, .ref r] (am_ov h w W) Q := by
  refine ax_in (ls := [some (.ref w), some (.ref r)]) rfl ?_
  refine ax_s (pc' := 1) (st' := [.ref w]) rfl rfl rfl rfl ?_
  refine ax_call (vs := [.ref w]) (rr := []) rfl rfl (am_arg_v (vs := [.ref w]) (rr := []) (by decide) rfl rfl rfl (Nat.le_of_ble_eq_true rfl) (Nat.le_of_ble_eq_true rfl) (by decide) rfl (am_ov_0 _ _ _) (am_wk_mut0 hk_w) rfl) ?_
  refine ct_letOff hk_w hn hn6 hg hg12 ?_
  show am_ex (d + 4) 53 4 [some (.ref w), some (.ref r)] [] (am_ov h w (w_lo W g n)) _
  refine ax_s (pc' := 5) (st' := [.ref w]) rfl rfl rfl rfl ?_
  refine ax_s (pc' := 6) (st' := [.ref r, .ref w]) rfl rfl rfl rfl ?_
  refine ax_call (vs := [.ref w, .ref r]) (rr := []) rfl rfl (am_arg_v (vs := [.ref w, .ref r]) (rr := []) (by decide) rfl rfl rfl (Nat.le_of_ble_eq_true rfl) (Nat.le_of_ble_eq_true rfl) (by decide) rfl (am_ov_0 _ _ _) (am_wk_mut0 hk_w) rfl) ?_
  refine ct_letIn hk_w (by rw [w_lo_0]; exact hn) hn6 hr hro hri ?_
  show am_ex (d + 4) 53 9 [some (.ref w), some (.ref r)] [] (am_ov h w (w_li (w_lo W g n) rk n)) _
  refine ax_s (pc' := 10) (st' := [.ref w]) rfl rfl rfl rfl ?_
  refine ax_call (vs := [.ref w]) (rr := []) rfl rfl (am_arg_v (vs := [.ref w]) (rr := []) (by decide) rfl rfl rfl (Nat.le_of_ble_eq_true rfl) (Nat.le_of_ble_eq_true rfl) (by decide) rfl (am_ov_0 _ _ _) (am_wk_mut0 hk_w) rfl) ?_
  refine ct_waitOn hk_w (by rw [w_li_0, w_lo_0]; exact hn) hn6 ?_
  show am_ex (d + 4) 53 13 [some (.ref w), some (.ref r)] [] (am_ov h w (w_wt n 0 (w_li (w_lo W g n) rk n))) _
  refine ax_s (pc' := 14) (st' := [.ref w]) rfl rfl rfl rfl ?_
  refine ax_s (pc' := 15) (st' := [.ref w, .ref w]) rfl rfl rfl rfl ?_
  refine ax_get rfl (am_ov_0 _ _ _) (am_wk_mut0 hk_w) rfl rfl ?_
  show am_ex (d + 4) 53 18 [some (.ref w), some (.ref r)] [.int ((w_wt n 0 (w_li (w_lo W g n) rk n)) 0 3), .ref w] (am_ov h w (w_wt n 0 (w_li (w_lo W g n) rk n))) _
  refine ax_s (pc' := 19) (st' := [.int 1, .int ((w_wt n 0 (w_li (w_lo W g n) rk n)) 0 3), .ref w]) rfl rfl rfl rfl ?_
  refine ax_s (pc' := 20) (st' := [.int (((w_wt n 0 (w_li (w_lo W g n) rk n)) 0 3) + 1), .ref w]) rfl rfl rfl rfl ?_
  refine ax_put rfl (am_ov_0 _ _ _) (am_wk_mut0 hk_w) rfl (show 3 + 1 ≤ _ from Nat.le_of_ble_eq_true rfl) rfl (am_ov_set0 _ _ _ 3 _ rfl) ?_
  refine ax_s (pc' := 24) (st' := [.ref w]) rfl rfl rfl rfl ?_
  refine ax_call (vs := [.ref w]) (rr := []) rfl rfl (am_arg_v (vs := [.ref w]) (rr := []) (by decide) rfl rfl rfl (Nat.le_of_ble_eq_true rfl) (Nat.le_of_ble_eq_true rfl) (by decide) rfl (am_ov_0 _ _ _) (am_wk_mut0 hk_w) rfl) ?_
  refine ct_turn hk_w (show (w_wt n 0 (w_li (w_lo W g n) rk n)) 0 4 = nI n by rw [w_wt_0, w_li_0, w_lo_0]; exact hn) hn6 (show (w_wt n 0 (w_li (w_lo W g n) rk n)) 0 0 = nI g by rw [w_wt_0, w_li_0, w_lo_0]; exact hg) hg12 ?_
  show am_ex (d + 4) 53 27 [some (.ref w), some (.ref r)] [.int (bI (w_tb (am_u (w_wt n 0 (w_li (w_lo W g n) rk n)) 0 3 (((w_wt n 0 (w_li (w_lo W g n) rk n)) 0 3) + 1)) g n))] (am_ov h w (w_tn (am_u (w_wt n 0 (w_li (w_lo W g n) rk n)) 0 3 (((w_wt n 0 (w_li (w_lo W g n) rk n)) 0 3) + 1)) g n)) _
  refine ax_rb rfl rfl ?_
  exact hQ
