theorem lp_riddenOfAll {d : Nat} {h : am_H} {w : Nat} {W : Nat → Nat → Int32} {n : Nat} {Q : Option Value → am_H → Prop} (hk_w : am_wk h w) (hn : W 0 4 = nI n) (hn6 : n ≤ 6)  : ∀ (k j : Nat) (a : Int32), j + k = n → Q (some (.int (w_sum (W 7) k j a))) (am_ov h w W) → am_ex d 93 4 [some (.ref w), some (.int a), some (.int (nI j))] [] (am_ov h w W) Q
  | 0, j, a, hj, hQ => by
    refine ax_s (pc' := 5) (st' := [.int (nI j)]) rfl rfl rfl rfl ?_
    refine ax_s (pc' := 6) (st' := [.ref w, .int (nI j)]) rfl rfl rfl rfl ?_
    refine ax_get rfl (am_ov_0 _ _ _) (am_wk_mut0 hk_w) rfl rfl ?_
    show am_ex d 93 9 [some (.ref w), some (.int a), some (.int (nI j))] [.int (W 0 4), .int (nI j)] (am_ov h w W) _
    refine ax_cmp_ge rfl (fun c9 => ?_) (fun c9 => absurd (by rw [hn]; exact nI_le (by omega) (by omega)) c9)
    refine ax_s (pc' := 28) (st' := [.int a]) rfl rfl rfl rfl ?_
    refine ax_r rfl rfl rfl ?_
    exact hQ
  | k + 1, j, a, hj, hQ => by
    refine ax_s (pc' := 5) (st' := [.int (nI j)]) rfl rfl rfl rfl ?_
    refine ax_s (pc' := 6) (st' := [.ref w, .int (nI j)]) rfl rfl rfl rfl ?_
    refine ax_get rfl (am_ov_0 _ _ _) (am_wk_mut0 hk_w) rfl rfl ?_
    show am_ex d 93 9 [some (.ref w), some (.int a), some (.int (nI j))] [.int (W 0 4), .int (nI j)] (am_ov h w W) _
    refine ax_cmp_ge rfl (fun c9 => absurd c9 (by rw [hn]; exact nI_ge (by omega) (by omega))) (fun c9 => ?_)
    refine ax_s (pc' := 13) (st' := [.int a]) rfl rfl rfl rfl ?_
    refine ax_s (pc' := 14) (st' := [.ref w, .int a]) rfl rfl rfl rfl ?_
    refine ax_get rfl (am_ov_0 _ _ _) (am_wk_mut0 hk_w) rfl rfl ?_
    show am_ex d 93 17 [some (.ref w), some (.int a), some (.int (nI j))] [.ref (w + 7), .int a] (am_ov h w W) _
    refine ax_s (pc' := 18) (st' := [.int (nI j), .ref (w + 7), .int a]) rfl rfl rfl rfl ?_
    refine ax_ald (v := (W 7 j)) rfl (am_ov_at _ _ _ 7 (by decide)) (am_wk_in hk_w 7 (by decide)) rfl (by omega) (by decide) rfl ?_
    refine ax_s (pc' := 20) (st' := [.int (a + (W 7 j))]) rfl rfl rfl rfl ?_
    refine ax_s (pc' := 21) (ls' := [some (.ref w), some (.int (a + (W 7 j))), some (.int (nI j))]) (st' := []) rfl rfl rfl rfl ?_
    refine ax_s (pc' := 24) (ls' := [some (.ref w), some (.int (a + (W 7 j))), some (.int ((nI j) + 1))]) (st' := []) rfl rfl rfl rfl ?_
    rw [nI_1]
    refine ax_s (pc' := 4) (st' := []) rfl rfl rfl rfl ?_
    exact lp_riddenOfAll hk_w hn hn6 k (j + 1) _ (by omega) hQ
theorem ct_riddenOfAll {d : Nat} {h : am_H} {w : Nat} {W : Nat → Nat → Int32} {n : Nat} {Q : Option Value → am_H → Prop} (hk_w : am_wk h w) (hn : W 0 4 = nI n) (hn6 : n ≤ 6)  (hQ : Q (some (.int (w_sum (W 7) n 0 0))) (am_ov h w W)) : am_mt d 93 [.ref w] (am_ov h w W) Q := by
  refine ax_in (ls := [some (.ref w), none, none]) rfl ?_
  refine ax_s (pc' := 1) (st' := [.int 0]) rfl rfl rfl rfl ?_
  refine ax_s (pc' := 2) (ls' := [some (.ref w), some (.int 0), none]) (st' := []) rfl rfl rfl rfl ?_
  refine ax_s (pc' := 3) (st' := [.int 0]) rfl rfl rfl rfl ?_
  refine ax_s (pc' := 4) (ls' := [some (.ref w), some (.int 0), some (.int 0)]) (st' := []) rfl rfl rfl rfl ?_
  exact lp_riddenOfAll hk_w hn hn6 n 0 0 (by omega) hQ
theorem lp_ballastOfAll {d : Nat} {h : am_H} {w : Nat} {W : Nat → Nat → Int32} {g : Nat} {Q : Option Value → am_H → Prop} (hk_w : am_wk h w) (hg : W 0 0 = nI g) (hg12 : g ≤ 12)  : ∀ (k j : Nat) (a : Int32), j + k = g → Q (some (.int (w_sum (W 1) k j a))) (am_ov h w W) → am_ex d 144 4 [some (.ref w), some (.int a), some (.int (nI j))] [] (am_ov h w W) Q
  | 0, j, a, hj, hQ => by
    refine ax_s (pc' := 5) (st' := [.int (nI j)]) rfl rfl rfl rfl ?_
    refine ax_s (pc' := 6) (st' := [.ref w, .int (nI j)]) rfl rfl rfl rfl ?_
    refine ax_get rfl (am_ov_0 _ _ _) (am_wk_mut0 hk_w) rfl rfl ?_
    show am_ex d 144 9 [some (.ref w), some (.int a), some (.int (nI j))] [.int (W 0 0), .int (nI j)] (am_ov h w W) _
    refine ax_cmp_ge rfl (fun c9 => ?_) (fun c9 => absurd (by rw [hg]; exact nI_le (by omega) (by omega)) c9)
    refine ax_s (pc' := 28) (st' := [.int a]) rfl rfl rfl rfl ?_
    refine ax_r rfl rfl rfl ?_
    exact hQ
  | k + 1, j, a, hj, hQ => by
    refine ax_s (pc' := 5) (st' := [.int (nI j)]) rfl rfl rfl rfl ?_
    refine ax_s (pc' := 6) (st' := [.ref w, .int (nI j)]) rfl rfl rfl rfl ?_
    refine ax_get rfl (am_ov_0 _ _ _) (am_wk_mut0 hk_w) rfl rfl ?_
    show am_ex d 144 9 [some (.ref w), some (.int a), some (.int (nI j))] [.int (W 0 0), .int (nI j)] (am_ov h w W) _
    refine ax_cmp_ge rfl (fun c9 => absurd c9 (by rw [hg]; exact nI_ge (by omega) (by omega))) (fun c9 => ?_)
    refine ax_s (pc' := 13) (st' := [.int a]) rfl rfl rfl rfl ?_
    refine ax_s (pc' := 14) (st' := [.ref w, .int a]) rfl rfl rfl rfl ?_
    refine ax_get rfl (am_ov_0 _ _ _) (am_wk_mut0 hk_w) rfl rfl ?_
    show am_ex d 144 17 [some (.ref w), some (.int a), some (.int (nI j))] [.ref (w + 1), .int a] (am_ov h w W) _
    refine ax_s (pc' := 18) (st' := [.int (nI j), .ref (w + 1), .int a]) rfl rfl rfl rfl ?_
    refine ax_ald (v := (W 1 j)) rfl (am_ov_at _ _ _ 1 (by decide)) (am_wk_in hk_w 1 (by decide)) rfl (by omega) (by decide) rfl ?_
    refine ax_s (pc' := 20) (st' := [.int (a + (W 1 j))]) rfl rfl rfl rfl ?_
    refine ax_s (pc' := 21) (ls' := [some (.ref w), some (.int (a + (W 1 j))), some (.int (nI j))]) (st' := []) rfl rfl rfl rfl ?_
    refine ax_s (pc' := 24) (ls' := [some (.ref w), some (.int (a + (W 1 j))), some (.int ((nI j) + 1))]) (st' := []) rfl rfl rfl rfl ?_
    rw [nI_1]
    refine ax_s (pc' := 4) (st' := []) rfl rfl rfl rfl ?_
    exact lp_ballastOfAll hk_w hg hg12 k (j + 1) _ (by omega) hQ
theorem ct_ballastOfAll {d : Nat} {h : am_H} {w : Nat} {W : Nat → Nat → Int32} {g : Nat} {Q : Option Value → am_H → Prop} (hk_w : am_wk h w) (hg : W 0 0 = nI g) (hg12 : g ≤ 12)  (hQ : Q (some (.int (w_sum (W 1) g 0 0))) (am_ov h w W)) : am_mt d 144 [.ref w] (am_ov h w W) Q := by
  refine ax_in (ls := [some (.ref w), none, none]) rfl ?_
  refine ax_s (pc' := 1) (st' := [.int 0]) rfl rfl rfl rfl ?_
  refine ax_s (pc' := 2) (ls' := [some (.ref w), some (.int 0), none]) (st' := []) rfl rfl rfl rfl ?_
  refine ax_s (pc' := 3) (st' := [.int 0]) rfl rfl rfl rfl ?_
  refine ax_s (pc' := 4) (ls' := [some (.ref w), some (.int 0), some (.int 0)]) (st' := []) rfl rfl rfl rfl ?_
  exact lp_ballastOfAll hk_w hg hg12 g 0 0 (by omega) hQ
theorem lp_lean2 {d : Nat} {h : am_H} {w : Nat} {W : Nat → Nat → Int32} {n : Nat} {q : Int32} {Q : Option Value → am_H → Prop} (hk_w : am_wk h w) (hn : W 0 4 = nI n) (hn6 : n ≤ 6)  : ∀ (k j : Nat) (a : Int32), j + k = n → Q (some (.int (w_ln2 W q k j a))) (am_ov h w W) → am_ex (d + 1) 58 49 [some (.ref w), some (.int q), some (.int a), some (.int (nI j))] [] (am_ov h w W) Q
  | 0, j, a, hj, hQ => by
    refine ax_s (pc' := 50) (st' := [.int (nI j)]) rfl rfl rfl rfl ?_
    refine ax_s (pc' := 51) (st' := [.ref w, .int (nI j)]) rfl rfl rfl rfl ?_
    refine ax_get rfl (am_ov_0 _ _ _) (am_wk_mut0 hk_w) rfl rfl ?_
    show am_ex (d + 1) 58 54 [some (.ref w), some (.int q), some (.int a), some (.int (nI j))] [.int (W 0 4), .int (nI j)] (am_ov h w W) _
    refine ax_cmp_ge rfl (fun c54 => ?_) (fun c54 => absurd (by rw [hn]; exact nI_le (by omega) (by omega)) c54)
    refine ax_s (pc' := 99) (st' := [.int a]) rfl rfl rfl rfl ?_
    refine ax_r rfl rfl rfl ?_
    exact hQ
  | k + 1, j, a, hj, hQ => by
    refine ax_s (pc' := 50) (st' := [.int (nI j)]) rfl rfl rfl rfl ?_
    refine ax_s (pc' := 51) (st' := [.ref w, .int (nI j)]) rfl rfl rfl rfl ?_
    refine ax_get rfl (am_ov_0 _ _ _) (am_wk_mut0 hk_w) rfl rfl ?_
    show am_ex (d + 1) 58 54 [some (.ref w), some (.int q), some (.int a), some (.int (nI j))] [.int (W 0 4), .int (nI j)] (am_ov h w W) _
    refine ax_cmp_ge rfl (fun c54 => absurd c54 (by rw [hn]; exact nI_ge (by omega) (by omega))) (fun c54 => ?_)
    refine ax_s (pc' := 58) (st' := [.ref w]) rfl rfl rfl rfl ?_
    refine ax_get rfl (am_ov_0 _ _ _) (am_wk_mut0 hk_w) rfl rfl ?_
    show am_ex (d + 1) 58 61 [some (.ref w), some (.int q), some (.int a), some (.int (nI j))] [.ref (w + 5)] (am_ov h w W) _
    refine ax_s (pc' := 62) (st' := [.int (nI j), .ref (w + 5)]) rfl rfl rfl rfl ?_
    refine ax_ald (v := (W 5 j)) rfl (am_ov_at _ _ _ 5 (by decide)) (am_wk_in hk_w 5 (by decide)) rfl (by omega) (by decide) rfl ?_
    refine ax_s (pc' := 64) (st' := [.int 1, .int (W 5 j)]) rfl rfl rfl rfl ?_
    refine ax_cmp_ne rfl (fun c64 => ?_) (fun c64 => ?_)
    · refine ax_s (pc' := 95) (ls' := [some (.ref w), some (.int q), some (.int a), some (.int ((nI j) + 1))]) (st' := []) rfl rfl rfl rfl ?_
      rw [nI_1]
      refine ax_s (pc' := 49) (st' := []) rfl rfl rfl rfl ?_
      exact lp_lean2 hk_w hn hn6 k (j + 1) _ (by omega) (by simpa [w_ln2, c54, c64] using hQ)
    · refine ax_s (pc' := 68) (st' := [.int a]) rfl rfl rfl rfl ?_
      refine ax_s (pc' := 69) (st' := [.ref w, .int a]) rfl rfl rfl rfl ?_
      refine ax_get rfl (am_ov_0 _ _ _) (am_wk_mut0 hk_w) rfl rfl ?_
      show am_ex (d + 1) 58 72 [some (.ref w), some (.int q), some (.int a), some (.int (nI j))] [.ref (w + 3), .int a] (am_ov h w W) _
      refine ax_s (pc' := 73) (st' := [.int (nI j), .ref (w + 3), .int a]) rfl rfl rfl rfl ?_
      refine ax_ald (v := (W 3 j)) rfl (am_ov_at _ _ _ 3 (by decide)) (am_wk_in hk_w 3 (by decide)) rfl (by omega) (by decide) rfl ?_
      refine ax_s (pc' := 75) (st' := [.ref w, .int (W 3 j), .int a]) rfl rfl rfl rfl ?_
      refine ax_s (pc' := 76) (st' := [.ref w, .ref w, .int (W 3 j), .int a]) rfl rfl rfl rfl ?_
      refine ax_s (pc' := 77) (st' := [.ref w, .ref w, .ref w, .int (W 3 j), .int a]) rfl rfl rfl rfl ?_
      refine ax_get rfl (am_ov_0 _ _ _) (am_wk_mut0 hk_w) rfl rfl ?_
      show am_ex (d + 1) 58 80 [some (.ref w), some (.int q), some (.int a), some (.int (nI j))] [.ref (w + 6), .ref w, .ref w, .int (W 3 j), .int a] (am_ov h w W) _
      refine ax_s (pc' := 81) (st' := [.int (nI j), .ref (w + 6), .ref w, .ref w, .int (W 3 j), .int a]) rfl rfl rfl rfl ?_
      refine ax_ald (v := (W 6 j)) rfl (am_ov_at _ _ _ 6 (by decide)) (am_wk_in hk_w 6 (by decide)) rfl (by omega) (by decide) rfl ?_
      refine ax_s (pc' := 83) (st' := [.int q, .int (W 6 j), .ref w, .ref w, .int (W 3 j), .int a]) rfl rfl rfl rfl ?_
      refine ax_call (vs := [.ref w, .int (W 6 j), .int q]) (rr := [.ref w, .int (W 3 j), .int a]) rfl rfl (am_arg_v (vs := [.ref w, .int (W 6 j), .int q]) (rr := [.ref w, .int (W 3 j), .int a]) (by decide) rfl rfl rfl (Nat.le_of_ble_eq_true rfl) (Nat.le_of_ble_eq_true rfl) (by decide) rfl (am_ov_0 _ _ _) (am_wk_mut0 hk_w) rfl) ?_
      refine ct_placeFrom hk_w ?_
      show am_ex (d + 1) 58 86 [some (.ref w), some (.int q), some (.int a), some (.int (nI j))] [.int (w_pf W (W 6 j) q), .ref w, .int (W 3 j), .int a] (am_ov h w W) _
      refine ax_call (vs := [.ref w, .int (w_pf W (W 6 j) q)]) (rr := [.int (W 3 j), .int a]) rfl rfl (am_arg_v (vs := [.ref w, .int (w_pf W (W 6 j) q)]) (rr := [.int (W 3 j), .int a]) (by decide) rfl rfl rfl (Nat.le_of_ble_eq_true rfl) (Nat.le_of_ble_eq_true rfl) (by decide) rfl (am_ov_0 _ _ _) (am_wk_mut0 hk_w) rfl) ?_
      refine ct_pullOf hk_w ?_
      show am_ex (d + 1) 58 89 [some (.ref w), some (.int q), some (.int a), some (.int (nI j))] [.int (w_pull W (w_pf W (W 6 j) q)), .int (W 3 j), .int a] (am_ov h w W) _
      refine ax_s (pc' := 90) (st' := [.int ((W 3 j) * (w_pull W (w_pf W (W 6 j) q))), .int a]) rfl rfl rfl rfl ?_
      refine ax_s (pc' := 91) (st' := [.int (a + ((W 3 j) * (w_pull W (w_pf W (W 6 j) q))))]) rfl rfl rfl rfl ?_
      refine ax_s (pc' := 92) (ls' := [some (.ref w), some (.int q), some (.int (a + ((W 3 j) * (w_pull W (w_pf W (W 6 j) q))))), some (.int (nI j))]) (st' := []) rfl rfl rfl rfl ?_
      refine ax_s (pc' := 95) (ls' := [some (.ref w), some (.int q), some (.int (a + ((W 3 j) * (w_pull W (w_pf W (W 6 j) q))))), some (.int ((nI j) + 1))]) (st' := []) rfl rfl rfl rfl ?_
      rw [nI_1]
      refine ax_s (pc' := 49) (st' := []) rfl rfl rfl rfl ?_
      exact lp_lean2 hk_w hn hn6 k (j + 1) _ (by omega) (by simpa [w_ln2, c54, c64] using hQ)
theorem lp_lean1 {d : Nat} {h : am_H} {w : Nat} {W : Nat → Nat → Int32} {n : Nat} {g : Nat} {q : Int32} {Q : Option Value → am_H → Prop} (hk_w : am_wk h w) (hn : W 0 4 = nI n) (hn6 : n ≤ 6) (hg : W 0 0 = nI g) (hg12 : g ≤ 12)  : ∀ (k j : Nat) (a : Int32), j + k = g → Q (some (.int (w_ln2 W q n 0 (w_ln1 W q k j a)))) (am_ov h w W) → am_ex (d + 1) 58 4 [some (.ref w), some (.int q), some (.int a), some (.int (nI j))] [] (am_ov h w W) Q
  | 0, j, a, hj, hQ => by
    refine ax_s (pc' := 5) (st' := [.int (nI j)]) rfl rfl rfl rfl ?_
    refine ax_s (pc' := 6) (st' := [.ref w, .int (nI j)]) rfl rfl rfl rfl ?_
    refine ax_get rfl (am_ov_0 _ _ _) (am_wk_mut0 hk_w) rfl rfl ?_
    show am_ex (d + 1) 58 9 [some (.ref w), some (.int q), some (.int a), some (.int (nI j))] [.int (W 0 0), .int (nI j)] (am_ov h w W) _
    refine ax_cmp_ge rfl (fun c9 => ?_) (fun c9 => absurd (by rw [hg]; exact nI_le (by omega) (by omega)) c9)
    refine ax_s (pc' := 48) (st' := [.int 0]) rfl rfl rfl rfl ?_
    refine ax_s (pc' := 49) (ls' := [some (.ref w), some (.int q), some (.int a), some (.int 0)]) (st' := []) rfl rfl rfl rfl ?_
    exact lp_lean2 hk_w hn hn6 n 0 _ (by omega) hQ
  | k + 1, j, a, hj, hQ => by
    refine ax_s (pc' := 5) (st' := [.int (nI j)]) rfl rfl rfl rfl ?_
    refine ax_s (pc' := 6) (st' := [.ref w, .int (nI j)]) rfl rfl rfl rfl ?_
    refine ax_get rfl (am_ov_0 _ _ _) (am_wk_mut0 hk_w) rfl rfl ?_
    show am_ex (d + 1) 58 9 [some (.ref w), some (.int q), some (.int a), some (.int (nI j))] [.int (W 0 0), .int (nI j)] (am_ov h w W) _
    refine ax_cmp_ge rfl (fun c9 => absurd c9 (by rw [hg]; exact nI_ge (by omega) (by omega))) (fun c9 => ?_)
    refine ax_s (pc' := 13) (st' := [.ref w]) rfl rfl rfl rfl ?_
    refine ax_get rfl (am_ov_0 _ _ _) (am_wk_mut0 hk_w) rfl rfl ?_
    show am_ex (d + 1) 58 16 [some (.ref w), some (.int q), some (.int a), some (.int (nI j))] [.ref (w + 1)] (am_ov h w W) _
    refine ax_s (pc' := 17) (st' := [.int (nI j), .ref (w + 1)]) rfl rfl rfl rfl ?_
    refine ax_ald (v := (W 1 j)) rfl (am_ov_at _ _ _ 1 (by decide)) (am_wk_in hk_w 1 (by decide)) rfl (by omega) (by decide) rfl ?_
    refine ax_if_eq rfl (fun c18 => ?_) (fun c18 => ?_)
    · refine ax_s (pc' := 44) (ls' := [some (.ref w), some (.int q), some (.int a), some (.int ((nI j) + 1))]) (st' := []) rfl rfl rfl rfl ?_
      rw [nI_1]
      refine ax_s (pc' := 4) (st' := []) rfl rfl rfl rfl ?_
      exact lp_lean1 hk_w hn hn6 hg hg12 k (j + 1) _ (by omega) (by simpa [w_ln1, c9, c18] using hQ)
    · refine ax_s (pc' := 22) (st' := [.int a]) rfl rfl rfl rfl ?_
      refine ax_s (pc' := 23) (st' := [.ref w, .int a]) rfl rfl rfl rfl ?_
      refine ax_get rfl (am_ov_0 _ _ _) (am_wk_mut0 hk_w) rfl rfl ?_
      show am_ex (d + 1) 58 26 [some (.ref w), some (.int q), some (.int a), some (.int (nI j))] [.ref (w + 1), .int a] (am_ov h w W) _
      refine ax_s (pc' := 27) (st' := [.int (nI j), .ref (w + 1), .int a]) rfl rfl rfl rfl ?_
      refine ax_ald (v := (W 1 j)) rfl (am_ov_at _ _ _ 1 (by decide)) (am_wk_in hk_w 1 (by decide)) rfl (by omega) (by decide) rfl ?_
      refine ax_s (pc' := 29) (st' := [.ref w, .int (W 1 j), .int a]) rfl rfl rfl rfl ?_
      refine ax_s (pc' := 30) (st' := [.ref w, .ref w, .int (W 1 j), .int a]) rfl rfl rfl rfl ?_
      refine ax_s (pc' := 31) (st' := [.int (nI j), .ref w, .ref w, .int (W 1 j), .int a]) rfl rfl rfl rfl ?_
      refine ax_s (pc' := 32) (st' := [.int q, .int (nI j), .ref w, .ref w, .int (W 1 j), .int a]) rfl rfl rfl rfl ?_
      refine ax_call (vs := [.ref w, .int (nI j), .int q]) (rr := [.ref w, .int (W 1 j), .int a]) rfl rfl (am_arg_v (vs := [.ref w, .int (nI j), .int q]) (rr := [.ref w, .int (W 1 j), .int a]) (by decide) rfl rfl rfl (Nat.le_of_ble_eq_true rfl) (Nat.le_of_ble_eq_true rfl) (by decide) rfl (am_ov_0 _ _ _) (am_wk_mut0 hk_w) rfl) ?_
      refine ct_placeFrom hk_w ?_
      show am_ex (d + 1) 58 35 [some (.ref w), some (.int q), some (.int a), some (.int (nI j))] [.int (w_pf W (nI j) q), .ref w, .int (W 1 j), .int a] (am_ov h w W) _
      refine ax_call (vs := [.ref w, .int (w_pf W (nI j) q)]) (rr := [.int (W 1 j), .int a]) rfl rfl (am_arg_v (vs := [.ref w, .int (w_pf W (nI j) q)]) (rr := [.int (W 1 j), .int a]) (by decide) rfl rfl rfl (Nat.le_of_ble_eq_true rfl) (Nat.le_of_ble_eq_true rfl) (by decide) rfl (am_ov_0 _ _ _) (am_wk_mut0 hk_w) rfl) ?_
      refine ct_pullOf hk_w ?_
      show am_ex (d + 1) 58 38 [some (.ref w), some (.int q), some (.int a), some (.int (nI j))] [.int (w_pull W (w_pf W (nI j) q)), .int (W 1 j), .int a] (am_ov h w W) _
      refine ax_s (pc' := 39) (st' := [.int ((W 1 j) * (w_pull W (w_pf W (nI j) q))), .int a]) rfl rfl rfl rfl ?_
      refine ax_s (pc' := 40) (st' := [.int (a + ((W 1 j) * (w_pull W (w_pf W (nI j) q))))]) rfl rfl rfl rfl ?_
      refine ax_s (pc' := 41) (ls' := [some (.ref w), some (.int q), some (.int (a + ((W 1 j) * (w_pull W (w_pf W (nI j) q))))), some (.int (nI j))]) (st' := []) rfl rfl rfl rfl ?_
      refine ax_s (pc' := 44) (ls' := [some (.ref w), some (.int q), some (.int (a + ((W 1 j) * (w_pull W (w_pf W (nI j) q))))), some (.int ((nI j) + 1))]) (st' := []) rfl rfl rfl rfl ?_
      rw [nI_1]
      refine ax_s (pc' := 4) (st' := []) rfl rfl rfl rfl ?_
      exact lp_lean1 hk_w hn hn6 hg hg12 k (j + 1) _ (by omega) (by simpa [w_ln1, c9, c18] using hQ)
theorem ct_leanWith {d : Nat} {h : am_H} {w : Nat} {W : Nat → Nat → Int32} {n : Nat} {g : Nat} {q : Int32} {Q : Option Value → am_H → Prop} (hk_w : am_wk h w) (hn : W 0 4 = nI n) (hn6 : n ≤ 6) (hg : W 0 0 = nI g) (hg12 : g ≤ 12)  (hQ : Q (some (.int (w_lean W g n q))) (am_ov h w W)) : am_mt (d + 1) 58 [.ref w, .int q] (am_ov h w W) Q := by
  refine ax_in (ls := [some (.ref w), some (.int q), none, none]) rfl ?_
  refine ax_s (pc' := 1) (st' := [.int 0]) rfl rfl rfl rfl ?_
  refine ax_s (pc' := 2) (ls' := [some (.ref w), some (.int q), some (.int 0), none]) (st' := []) rfl rfl rfl rfl ?_
  refine ax_s (pc' := 3) (st' := [.int 0]) rfl rfl rfl rfl ?_
  refine ax_s (pc' := 4) (ls' := [some (.ref w), some (.int q), some (.int 0), some (.int 0)]) (st' := []) rfl rfl rfl rfl ?_
  exact lp_lean1 hk_w hn hn6 hg hg12 g 0 0 (by omega) hQ
theorem ct_isDone {d : Nat} {h : am_H} {w : Nat} {W : Nat → Nat → Int32} {n : Nat} {g : Nat} {p : Int32} {j : Nat} {Q : Option Value → am_H → Prop} (hk_w : am_wk h w) (hn : W 0 4 = nI n) (hn6 : n ≤ 6) (hg : W 0 0 = nI g) (hg12 : g ≤ 12) (hp : p = nI j) (hj6 : j < 6)  (hQ : Q (some (.int (bI (w_dn W g n j)))) (am_ov h w W)) : am_mt (d + 2) 56 [.ref w, .int p] (am_ov h w W) Q := by
  refine ax_in (ls := [some (.ref w), some (.int p), none]) rfl ?_
  refine ax_s (pc' := 1) (st' := [.ref w]) rfl rfl rfl rfl ?_
  refine ax_get rfl (am_ov_0 _ _ _) (am_wk_mut0 hk_w) rfl rfl ?_
  show am_ex (d + 2) 56 4 [some (.ref w), some (.int p), none] [.ref (w + 7)] (am_ov h w W) _
  refine ax_s (pc' := 5) (st' := [.int p, .ref (w + 7)]) rfl rfl rfl rfl ?_
  refine ax_ald (v := (W 7 j)) rfl (am_ov_at _ _ _ 7 (by decide)) (am_wk_in hk_w 7 (by decide)) hp hj6 (by decide) rfl ?_
  refine ax_s (pc' := 7) (st' := [.ref w, .int (W 7 j)]) rfl rfl rfl rfl ?_
  refine ax_get rfl (am_ov_0 _ _ _) (am_wk_mut0 hk_w) rfl rfl ?_
  show am_ex (d + 2) 56 10 [some (.ref w), some (.int p), none] [.ref (w + 4), .int (W 7 j)] (am_ov h w W) _
  refine ax_s (pc' := 11) (st' := [.int p, .ref (w + 4), .int (W 7 j)]) rfl rfl rfl rfl ?_
  refine ax_ald (v := (W 4 j)) rfl (am_ov_at _ _ _ 4 (by decide)) (am_wk_in hk_w 4 (by decide)) hp hj6 (by decide) rfl ?_
  refine ax_cmp_lt rfl (fun c12 => ?_) (fun c12 => ?_)
  · refine ax_s (pc' := 20) (st' := [.int 0]) rfl rfl rfl rfl ?_
    refine ax_s (pc' := 21) (ls' := [some (.ref w), some (.int p), some (.int 0)]) (st' := []) rfl rfl rfl rfl ?_
    refine ax_s (pc' := 22) (st' := [.ref w]) rfl rfl rfl rfl ?_
    refine ax_get rfl (am_ov_0 _ _ _) (am_wk_mut0 hk_w) rfl rfl ?_
    show am_ex (d + 2) 56 25 [some (.ref w), some (.int p), some (.int 0)] [.ref (w + 2)] (am_ov h w W) _
    refine ax_s (pc' := 26) (st' := [.int p, .ref (w + 2)]) rfl rfl rfl rfl ?_
    refine ax_ald (v := (W 2 j)) rfl (am_ov_at _ _ _ 2 (by decide)) (am_wk_in hk_w 2 (by decide)) hp hj6 (by decide) rfl ?_
    by_cases s27_2 : (W 2 j) = 2
    · refine ax_s (pc' := 56) (ls' := [some (.ref w), some (.int p), some (.int 0)]) (st' := []) (h1 := (am_ov h w W)) rfl (by rw [s27_2]; rfl) rfl rfl ?_
      refine ax_s (pc' := 57) (st' := [.int 0]) rfl rfl rfl rfl ?_
      refine ax_if_eq rfl (fun c57 => ?_) (fun c57 => False.elim (by revert c57; decide))
      refine ax_s (pc' := 73) (st' := [.int 0]) rfl rfl rfl rfl ?_
      refine ax_rb (b := false) rfl rfl ?_
      simpa [bI, w_dn, c12, s27_2, c57] using hQ
    by_cases s27_3 : (W 2 j) = 3
    · refine ax_s (pc' := 74) (ls' := [some (.ref w), some (.int p), some (.int 0)]) (st' := []) (h1 := (am_ov h w W)) rfl (by rw [s27_3]; rfl) rfl rfl ?_
      refine ax_s (pc' := 75) (st' := [.ref w]) rfl rfl rfl rfl ?_
      refine ax_get rfl (am_ov_0 _ _ _) (am_wk_mut0 hk_w) rfl rfl ?_
      show am_ex (d + 2) 56 78 [some (.ref w), some (.int p), some (.int 0)] [.ref (w + 7)] (am_ov h w W) _
      refine ax_s (pc' := 79) (st' := [.int p, .ref (w + 7)]) rfl rfl rfl rfl ?_
      refine ax_ald (v := (W 7 j)) rfl (am_ov_at _ _ _ 7 (by decide)) (am_wk_in hk_w 7 (by decide)) hp hj6 (by decide) rfl ?_
      refine ax_s (pc' := 81) (st' := [.int 1, .int (W 7 j)]) rfl rfl rfl rfl ?_
      refine ax_cmp_lt rfl (fun c81 => ?_) (fun c81 => ?_)
      · refine ax_s (pc' := 89) (st' := [.int 0]) rfl rfl rfl rfl ?_
        refine ax_rb (b := false) rfl rfl ?_
        simpa [bI, w_dn, c12, s27_3, c81] using hQ
      · refine ax_s (pc' := 85) (st' := [.int 1]) rfl rfl rfl rfl ?_
        refine ax_s (pc' := 89) (st' := [.int 1]) rfl rfl rfl rfl ?_
        refine ax_rb (b := true) rfl rfl ?_
        simpa [bI, w_dn, c12, s27_3, c81] using hQ
    by_cases s27_5 : (W 2 j) = 5
    · refine ax_s (pc' := 90) (ls' := [some (.ref w), some (.int p), some (.int 0)]) (st' := []) (h1 := (am_ov h w W)) rfl (by rw [s27_5]; rfl) rfl rfl ?_
      refine ax_s (pc' := 91) (st' := [.int 0]) rfl rfl rfl rfl ?_
      refine ax_if_ne rfl (fun c91 => False.elim (by revert c91; decide)) (fun c91 => ?_)
      refine ax_s (pc' := 95) (st' := [.ref w]) rfl rfl rfl rfl ?_
      refine ax_get rfl (am_ov_0 _ _ _) (am_wk_mut0 hk_w) rfl rfl ?_
      show am_ex (d + 2) 56 98 [some (.ref w), some (.int p), some (.int 0)] [.ref (w + 7)] (am_ov h w W) _
      refine ax_s (pc' := 99) (st' := [.int p, .ref (w + 7)]) rfl rfl rfl rfl ?_
      refine ax_ald (v := (W 7 j)) rfl (am_ov_at _ _ _ 7 (by decide)) (am_wk_in hk_w 7 (by decide)) hp hj6 (by decide) rfl ?_
      refine ax_s (pc' := 101) (st' := [.int 1, .int (W 7 j)]) rfl rfl rfl rfl ?_
      refine ax_cmp_lt rfl (fun c101 => ?_) (fun c101 => ?_)
      · refine ax_s (pc' := 129) (st' := [.int 0]) rfl rfl rfl rfl ?_
        refine ax_rb (b := false) rfl rfl ?_
        simpa [bI, w_dn, c12, s27_5, c91, c101] using hQ
      · refine ax_s (pc' := 105) (st' := [.ref w]) rfl rfl rfl rfl ?_
        refine ax_s (pc' := 106) (st' := [.ref w, .ref w]) rfl rfl rfl rfl ?_
        refine ax_get rfl (am_ov_0 _ _ _) (am_wk_mut0 hk_w) rfl rfl ?_
        show am_ex (d + 2) 56 109 [some (.ref w), some (.int p), some (.int 0)] [.int (W 0 2), .ref w] (am_ov h w W) _
        refine ax_call (vs := [.ref w, .int (W 0 2)]) (rr := []) rfl rfl (am_arg_v (vs := [.ref w, .int (W 0 2)]) (rr := []) (by decide) rfl rfl rfl (Nat.le_of_ble_eq_true rfl) (Nat.le_of_ble_eq_true rfl) (by decide) rfl (am_ov_0 _ _ _) (am_wk_mut0 hk_w) rfl) ?_
        refine ct_leanWith hk_w hn hn6 hg hg12 ?_
        show am_ex (d + 2) 56 112 [some (.ref w), some (.int p), some (.int 0)] [.int (w_lean W g n (W 0 2))] (am_ov h w W) _
        refine ax_call (vs := [.int (w_lean W g n (W 0 2))]) (rr := []) rfl rfl (show am_arg _ 61 [.int (w_lean W g n (W 0 2))] _ = some ([.int (w_lean W g n (W 0 2))], []) from rfl) ?_
        refine ct_abs ?_
        show am_ex (d + 2) 56 115 [some (.ref w), some (.int p), some (.int 0)] [.int (w_abs (w_lean W g n (W 0 2)))] (am_ov h w W) _
        refine ax_s (pc' := 116) (st' := [.int 5, .int (w_abs (w_lean W g n (W 0 2)))]) rfl rfl rfl rfl ?_
        refine ax_s (pc' := 117) (st' := [.ref w, .int 5, .int (w_abs (w_lean W g n (W 0 2)))]) rfl rfl rfl rfl ?_
        refine ax_get rfl (am_ov_0 _ _ _) (am_wk_mut0 hk_w) rfl rfl ?_
        show am_ex (d + 2) 56 120 [some (.ref w), some (.int p), some (.int 0)] [.int (W 0 1), .int 5, .int (w_abs (w_lean W g n (W 0 2)))] (am_ov h w W) _
        refine ax_s (pc' := 121) (st' := [.int (5 * (W 0 1)), .int (w_abs (w_lean W g n (W 0 2)))]) rfl rfl rfl rfl ?_
        refine ax_cmp_lt rfl (fun c121 => ?_) (fun c121 => ?_)
        · refine ax_s (pc' := 129) (st' := [.int 0]) rfl rfl rfl rfl ?_
          refine ax_rb (b := false) rfl rfl ?_
          simpa [bI, w_dn, c12, s27_5, c91, c101, c121] using hQ
        · refine ax_s (pc' := 125) (st' := [.int 1]) rfl rfl rfl rfl ?_
          refine ax_s (pc' := 129) (st' := [.int 1]) rfl rfl rfl rfl ?_
          refine ax_rb (b := true) rfl rfl ?_
          simpa [bI, w_dn, c12, s27_5, c91, c101, c121] using hQ
    refine ax_s (pc' := 130) (ls' := [some (.ref w), some (.int p), some (.int 0)]) (st' := []) (h1 := (am_ov h w W)) rfl (am_tsw [2, 3, 5] (by decide) (by decide) (by intro q hq; simp only [List.mem_cons, List.not_mem_nil, or_false] at hq; rcases hq with rfl | rfl | rfl <;> first | exact lv_neT s27_2 (by decide) | exact lv_neT s27_3 (by decide) | exact lv_neT s27_5 (by decide)) (by decide)) rfl rfl ?_
    refine ax_s (pc' := 131) (st' := [.int 0]) rfl rfl rfl rfl ?_
    refine ax_rb (b := false) rfl rfl ?_
    simpa [bI, w_dn, c12, s27_2, s27_3, s27_5] using hQ
  · refine ax_s (pc' := 16) (st' := [.int 1]) rfl rfl rfl rfl ?_
    refine ax_s (pc' := 20) (st' := [.int 1]) rfl rfl rfl rfl ?_
    refine ax_s (pc' := 21) (ls' := [some (.ref w), some (.int p), some (.int 1)]) (st' := []) rfl rfl rfl rfl ?_
    refine ax_s (pc' := 22) (st' := [.ref w]) rfl rfl rfl rfl ?_
    refine ax_get rfl (am_ov_0 _ _ _) (am_wk_mut0 hk_w) rfl rfl ?_
    show am_ex (d + 2) 56 25 [some (.ref w), some (.int p), some (.int 1)] [.ref (w + 2)] (am_ov h w W) _
    refine ax_s (pc' := 26) (st' := [.int p, .ref (w + 2)]) rfl rfl rfl rfl ?_
    refine ax_ald (v := (W 2 j)) rfl (am_ov_at _ _ _ 2 (by decide)) (am_wk_in hk_w 2 (by decide)) hp hj6 (by decide) rfl ?_
    by_cases s27_2 : (W 2 j) = 2
    · refine ax_s (pc' := 56) (ls' := [some (.ref w), some (.int p), some (.int 1)]) (st' := []) (h1 := (am_ov h w W)) rfl (by rw [s27_2]; rfl) rfl rfl ?_
      refine ax_s (pc' := 57) (st' := [.int 1]) rfl rfl rfl rfl ?_
      refine ax_if_eq rfl (fun c57 => False.elim (by revert c57; decide)) (fun c57 => ?_)
      refine ax_s (pc' := 61) (st' := [.ref w]) rfl rfl rfl rfl ?_
      refine ax_s (pc' := 62) (st' := [.int 0, .ref w]) rfl rfl rfl rfl ?_
      refine ax_call (vs := [.ref w, .int 0]) (rr := []) rfl rfl (am_arg_v (vs := [.ref w, .int 0]) (rr := []) (by decide) rfl rfl rfl (Nat.le_of_ble_eq_true rfl) (Nat.le_of_ble_eq_true rfl) (by decide) rfl (am_ov_0 _ _ _) (am_wk_mut0 hk_w) rfl) ?_
      refine ct_whichAre hk_w hn hn6 ?_
      show am_ex (d + 2) 56 65 [some (.ref w), some (.int p), some (.int 1)] [.int (w_wh W 0 n 0 0)] (am_ov h w W) _
      refine ax_if_eq rfl (fun c65 => ?_) (fun c65 => ?_)
      · refine ax_s (pc' := 73) (st' := [.int 0]) rfl rfl rfl rfl ?_
        refine ax_rb (b := false) rfl rfl ?_
        simpa [bI, w_dn, c12, s27_2, c57, c65] using hQ
      · refine ax_s (pc' := 69) (st' := [.int 1]) rfl rfl rfl rfl ?_
        refine ax_s (pc' := 73) (st' := [.int 1]) rfl rfl rfl rfl ?_
        refine ax_rb (b := true) rfl rfl ?_
        simpa [bI, w_dn, c12, s27_2, c57, c65] using hQ
    by_cases s27_3 : (W 2 j) = 3
    · refine ax_s (pc' := 74) (ls' := [some (.ref w), some (.int p), some (.int 1)]) (st' := []) (h1 := (am_ov h w W)) rfl (by rw [s27_3]; rfl) rfl rfl ?_
      refine ax_s (pc' := 75) (st' := [.ref w]) rfl rfl rfl rfl ?_
      refine ax_get rfl (am_ov_0 _ _ _) (am_wk_mut0 hk_w) rfl rfl ?_
      show am_ex (d + 2) 56 78 [some (.ref w), some (.int p), some (.int 1)] [.ref (w + 7)] (am_ov h w W) _
      refine ax_s (pc' := 79) (st' := [.int p, .ref (w + 7)]) rfl rfl rfl rfl ?_
      refine ax_ald (v := (W 7 j)) rfl (am_ov_at _ _ _ 7 (by decide)) (am_wk_in hk_w 7 (by decide)) hp hj6 (by decide) rfl ?_
      refine ax_s (pc' := 81) (st' := [.int 1, .int (W 7 j)]) rfl rfl rfl rfl ?_
      refine ax_cmp_lt rfl (fun c81 => ?_) (fun c81 => ?_)
      · refine ax_s (pc' := 89) (st' := [.int 0]) rfl rfl rfl rfl ?_
        refine ax_rb (b := false) rfl rfl ?_
        simpa [bI, w_dn, c12, s27_3, c81] using hQ
      · refine ax_s (pc' := 85) (st' := [.int 1]) rfl rfl rfl rfl ?_
        refine ax_s (pc' := 89) (st' := [.int 1]) rfl rfl rfl rfl ?_
        refine ax_rb (b := true) rfl rfl ?_
        simpa [bI, w_dn, c12, s27_3, c81] using hQ
    by_cases s27_5 : (W 2 j) = 5
    · refine ax_s (pc' := 90) (ls' := [some (.ref w), some (.int p), some (.int 1)]) (st' := []) (h1 := (am_ov h w W)) rfl (by rw [s27_5]; rfl) rfl rfl ?_
      refine ax_s (pc' := 91) (st' := [.int 1]) rfl rfl rfl rfl ?_
      refine ax_if_ne rfl (fun c91 => ?_) (fun c91 => False.elim (by revert c91; decide))
      refine ax_s (pc' := 125) (st' := [.int 1]) rfl rfl rfl rfl ?_
      refine ax_s (pc' := 129) (st' := [.int 1]) rfl rfl rfl rfl ?_
      refine ax_rb (b := true) rfl rfl ?_
      simpa [bI, w_dn, c12, s27_5, c91] using hQ
    refine ax_s (pc' := 130) (ls' := [some (.ref w), some (.int p), some (.int 1)]) (st' := []) (h1 := (am_ov h w W)) rfl (am_tsw [2, 3, 5] (by decide) (by decide) (by intro q hq; simp only [List.mem_cons, List.not_mem_nil, or_false] at hq; rcases hq with rfl | rfl | rfl <;> first | exact lv_neT s27_2 (by decide) | exact lv_neT s27_3 (by decide) | exact lv_neT s27_5 (by decide)) (by decide)) rfl rfl ?_
    refine ax_s (pc' := 131) (st' := [.int 1]) rfl rfl rfl rfl ?_
    refine ax_rb (b := true) rfl rfl ?_
    simpa [bI, w_dn, c12, s27_2, s27_3, s27_5] using hQ
theorem ct_hasLostPatience {d : Nat} {h : am_H} {w : Nat} {W : Nat → Nat → Int32} {p : Int32} {j : Nat} {Q : Option Value → am_H → Prop} (hk_w : am_wk h w) (hp : p = nI j) (hj6 : j < 6)  (hQ : Q (some (.int (bI (w_lp W j)))) (am_ov h w W)) : am_mt d 65 [.ref w, .int p] (am_ov h w W) Q := by
  refine ax_in (ls := [some (.ref w), some (.int p)]) rfl ?_
  refine ax_s (pc' := 1) (st' := [.ref w]) rfl rfl rfl rfl ?_
  refine ax_get rfl (am_ov_0 _ _ _) (am_wk_mut0 hk_w) rfl rfl ?_
  show am_ex d 65 4 [some (.ref w), some (.int p)] [.ref (w + 2)] (am_ov h w W) _
  refine ax_s (pc' := 5) (st' := [.int p, .ref (w + 2)]) rfl rfl rfl rfl ?_
  refine ax_ald (v := (W 2 j)) rfl (am_ov_at _ _ _ 2 (by decide)) (am_wk_in hk_w 2 (by decide)) hp hj6 (by decide) rfl ?_
  by_cases s6_4 : (W 2 j) = 4
  · refine ax_s (pc' := 32) (ls' := [some (.ref w), some (.int p)]) (st' := []) (h1 := (am_ov h w W)) rfl (by rw [s6_4]; rfl) rfl rfl ?_
    refine ax_s (pc' := 33) (st' := [.ref w]) rfl rfl rfl rfl ?_
    refine ax_get rfl (am_ov_0 _ _ _) (am_wk_mut0 hk_w) rfl rfl ?_
    show am_ex d 65 36 [some (.ref w), some (.int p)] [.ref (w + 8)] (am_ov h w W) _
    refine ax_s (pc' := 37) (st' := [.int p, .ref (w + 8)]) rfl rfl rfl rfl ?_
    refine ax_ald (v := (W 8 j)) rfl (am_ov_at _ _ _ 8 (by decide)) (am_wk_in hk_w 8 (by decide)) hp hj6 (by decide) rfl ?_
    refine ax_s (pc' := 39) (st' := [.int 5, .int (W 8 j)]) rfl rfl rfl rfl ?_
    refine ax_cmp_lt rfl (fun c39 => ?_) (fun c39 => ?_)
    · refine ax_s (pc' := 47) (st' := [.int 0]) rfl rfl rfl rfl ?_
      refine ax_rb (b := false) rfl rfl ?_
      simpa [bI, w_lp, s6_4, c39] using hQ
    · refine ax_s (pc' := 43) (st' := [.int 1]) rfl rfl rfl rfl ?_
      refine ax_s (pc' := 47) (st' := [.int 1]) rfl rfl rfl rfl ?_
      refine ax_rb (b := true) rfl rfl ?_
      simpa [bI, w_lp, s6_4, c39] using hQ
  by_cases s6_5 : (W 2 j) = 5
  · refine ax_s (pc' := 48) (ls' := [some (.ref w), some (.int p)]) (st' := []) (h1 := (am_ov h w W)) rfl (by rw [s6_5]; rfl) rfl rfl ?_
    refine ax_s (pc' := 49) (st' := [.ref w]) rfl rfl rfl rfl ?_
    refine ax_get rfl (am_ov_0 _ _ _) (am_wk_mut0 hk_w) rfl rfl ?_
    show am_ex d 65 52 [some (.ref w), some (.int p)] [.ref (w + 8)] (am_ov h w W) _
    refine ax_s (pc' := 53) (st' := [.int p, .ref (w + 8)]) rfl rfl rfl rfl ?_
    refine ax_ald (v := (W 8 j)) rfl (am_ov_at _ _ _ 8 (by decide)) (am_wk_in hk_w 8 (by decide)) hp hj6 (by decide) rfl ?_
    refine ax_s (pc' := 55) (st' := [.int 2, .int (W 8 j)]) rfl rfl rfl rfl ?_
    refine ax_cmp_lt rfl (fun c55 => ?_) (fun c55 => ?_)
    · refine ax_s (pc' := 63) (st' := [.int 0]) rfl rfl rfl rfl ?_
      refine ax_rb (b := false) rfl rfl ?_
      simpa [bI, w_lp, s6_5, c55] using hQ
    · refine ax_s (pc' := 59) (st' := [.int 1]) rfl rfl rfl rfl ?_
      refine ax_s (pc' := 63) (st' := [.int 1]) rfl rfl rfl rfl ?_
      refine ax_rb (b := true) rfl rfl ?_
      simpa [bI, w_lp, s6_5, c55] using hQ
  refine ax_s (pc' := 64) (ls' := [some (.ref w), some (.int p)]) (st' := []) (h1 := (am_ov h w W)) rfl (am_lsw (by decide) (by simp [Op.lookupswitch.offset, (show ¬ (4 : Int) = Int32.toInt (W 2 j) from fun q => lv_neT s6_4 (by decide) q.symm), (show ¬ (5 : Int) = Int32.toInt (W 2 j) from fun q => lv_neT s6_5 (by decide) q.symm)]) (by decide)) rfl rfl ?_
  refine ax_s (pc' := 65) (st' := [.int 0]) rfl rfl rfl rfl ?_
  refine ax_rb (b := false) rfl rfl ?_
  simpa [bI, w_lp, s6_4, s6_5] using hQ
