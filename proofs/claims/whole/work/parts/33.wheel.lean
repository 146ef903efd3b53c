theorem lp_sticksIn {d : Nat} {h : am_H} {w : Nat} {n g m : Nat} {rk : Nat → Int32} {en : Int32} {Q : Option Value → am_H → Prop} (hk_w : am_wk h w) (hn6 : n ≤ 6) (hg12 : g ≤ 12) (hr : h.1 1 = .inr (.inl (0, 6, rk))) : ∀ (k j : Nat) (a : Int32) (W1 : Nat → Nat → Int32), (j + k = m ∧ m < 1000) → (W1 0 4 = nI n ∧ W1 0 0 = nI g ∧ Q (some (.int (w_sk rk g n en k a W1).1)) (am_ov h w (w_sk rk g n en k a W1).2)) → am_ex (d + 5) 98 5 [some (.ref w), some (.int (nI m)), some (.int en), some (.int a), some (.int (nI j))] [] (am_ov h w W1) Q
  | 0, j, a, W1, hj, hQ => by
    refine ax_s (pc' := 7) (st' := [.int (nI j)]) rfl rfl rfl rfl ?_
    refine ax_s (pc' := 8) (st' := [.int (nI m), .int (nI j)]) rfl rfl rfl rfl ?_
    refine ax_cmp_ge rfl (fun c8 => ?_) (fun c8 => absurd (nI_le (by omega) (by omega)) c8)
    refine ax_s (pc' := 36) (st' := [.int a]) rfl rfl rfl rfl ?_
    refine ax_r rfl rfl rfl ?_
    exact hQ.2.2
  | k + 1, j, a, W1, hj, hQ => by
    refine ax_s (pc' := 7) (st' := [.int (nI j)]) rfl rfl rfl rfl ?_
    refine ax_s (pc' := 8) (st' := [.int (nI m), .int (nI j)]) rfl rfl rfl rfl ?_
    refine ax_cmp_ge rfl (fun c8 => absurd c8 (nI_ge (by omega) (by omega))) (fun c8 => ?_)
    refine ax_s (pc' := 12) (st' := [.int a]) rfl rfl rfl rfl ?_
    refine ax_s (pc' := 13) (st' := [.int en, .int a]) rfl rfl rfl rfl ?_
    refine ax_cmp_ge rfl (fun c13 => ?_) (fun c13 => ?_)
    · refine ax_s (pc' := 36) (st' := [.int a]) rfl rfl rfl rfl ?_
      refine ax_r rfl rfl rfl ?_
      have hq := hQ.2.2
      unfold w_sk at hq
      rw [if_pos c13] at hq
      exact hq
    · refine ax_s (pc' := 17) (st' := [.ref w]) rfl rfl rfl rfl ?_
      refine ax_s (pc' := 20) (st' := [.ref 1, .ref w]) rfl rfl rfl rfl ?_
      refine ax_call (vs := [.ref w, .ref 1]) (rr := []) rfl rfl (am_arg_v (vs := [.ref w, .ref 1]) (rr := []) (by decide) rfl rfl rfl (Nat.le_of_ble_eq_true rfl) (Nat.le_of_ble_eq_true rfl) (by decide) rfl (am_ov_0 _ _ _) (am_wk_mut0 hk_w) rfl) ?_
      refine ct_makeStep hk_w hQ.1 hn6 hQ.2.1 hg12 hr (Or.inl (by have := hk_w.1; omega)) (by omega) ?_
      show am_ex (d + 5) 98 23 [some (.ref w), some (.int (nI m)), some (.int en), some (.int a), some (.int (nI j))] [.int (bI (w_mb W1 rk g n))] (am_ov h w (w_ms W1 rk g n)) _
      refine ax_bT rfl (fun c23 => ?_) (fun c23 => ?_)
      · refine ax_s (pc' := 32) (ls' := [some (.ref w), some (.int (nI m)), some (.int en), some (.int a), some (.int ((nI j) + 1))]) (st' := []) rfl rfl rfl rfl ?_
        rw [nI_1]
        refine ax_s (pc' := 5) (st' := []) rfl rfl rfl rfl ?_
        have e := w_ms_04 W1 rk g n
        refine lp_sticksIn hk_w hn6 hg12 hr k (j + 1) _ _ (by omega) ⟨e.1.trans hQ.1, e.2.trans hQ.2.1, ?_⟩
        have hq := hQ.2.2
        unfold w_sk at hq
        rw [if_neg c13, c23] at hq
        simpa using hq
      · refine ax_s (pc' := 29) (ls' := [some (.ref w), some (.int (nI m)), some (.int en), some (.int (a + 1)), some (.int (nI j))]) (st' := []) rfl rfl rfl rfl ?_
        refine ax_s (pc' := 32) (ls' := [some (.ref w), some (.int (nI m)), some (.int en), some (.int (a + 1)), some (.int ((nI j) + 1))]) (st' := []) rfl rfl rfl rfl ?_
        rw [nI_1]
        refine ax_s (pc' := 5) (st' := []) rfl rfl rfl rfl ?_
        have e := w_ms_04 W1 rk g n
        refine lp_sticksIn hk_w hn6 hg12 hr k (j + 1) _ _ (by omega) ⟨e.1.trans hQ.1, e.2.trans hQ.2.1, ?_⟩
        have hq := hQ.2.2
        unfold w_sk at hq
        rw [if_neg c13, c23] at hq
        simpa using hq
theorem ct_sticksIn {d : Nat} {h : am_H} {w : Nat} {W : Nat → Nat → Int32} {n : Nat} {g : Nat} {m : Nat} {rk : Nat → Int32} {en : Int32} {Q : Option Value → am_H → Prop} (hk_w : am_wk h w) (hn : W 0 4 = nI n) (hn6 : n ≤ 6) (hg : W 0 0 = nI g) (hg12 : g ≤ 12) (hr : h.1 1 = .inr (.inl (0, 6, rk))) (hm : m < 1000) (hQ : Q (some (.int (w_sk rk g n en m 0 W).1)) (am_ov h w (w_sk rk g n en m 0 W).2)) : am_mt (d + 5) 98 [.ref w, .int (nI m), .int en] (am_ov h w W) Q := by
  refine ax_in (ls := [some (.ref w), some (.int (nI m)), some (.int en), none, none]) rfl ?_
  refine ax_s (pc' := 1) (st' := [.int 0]) rfl rfl rfl rfl ?_
  refine ax_s (pc' := 2) (ls' := [some (.ref w), some (.int (nI m)), some (.int en), some (.int 0), none]) (st' := []) rfl rfl rfl rfl ?_
  refine ax_s (pc' := 3) (st' := [.int 0]) rfl rfl rfl rfl ?_
  refine ax_s (pc' := 5) (ls' := [some (.ref w), some (.int (nI m)), some (.int en), some (.int 0), some (.int 0)]) (st' := []) rfl rfl rfl rfl ?_
  exact lp_sticksIn hk_w hn6 hg12 hr m 0 0 W ⟨by omega, hm⟩ ⟨hn, hg, hQ⟩
theorem lp_begin {d : Nat} {h : am_H} {w : Nat} {p q : Int32} {Q : Option Value → am_H → Prop} (hk_w : am_wk h w) : ∀ (k j : Nat) (W1 : Nat → Nat → Int32), j + k = 12 → Q none (am_ov h w (w_z1 k j W1)) → am_ex d 36 27 [some (.ref w), some (.int p), some (.int q), some (.int (nI j))] [] (am_ov h w W1) Q
  | 0, j, W1, hj, hQ => by
    refine ax_s (pc' := 28) (st' := [.int (nI j)]) rfl rfl rfl rfl ?_
    refine ax_s (pc' := 30) (st' := [.int 12, .int (nI j)]) rfl rfl rfl rfl ?_
    refine ax_cmp_ge rfl (fun c30 => ?_) (fun c30 => absurd (show nI 12 ≤ nI j from nI_le (by omega) (by omega)) c30)
    refine ax_r rfl rfl rfl ?_
    exact hQ
  | k + 1, j, W1, hj, hQ => by
    refine ax_s (pc' := 28) (st' := [.int (nI j)]) rfl rfl rfl rfl ?_
    refine ax_s (pc' := 30) (st' := [.int 12, .int (nI j)]) rfl rfl rfl rfl ?_
    refine ax_cmp_ge rfl (fun c30 => absurd c30 (show ¬ nI 12 ≤ nI j from nI_ge (by omega) (by omega))) (fun c30 => ?_)
    refine ax_s (pc' := 34) (st' := [.ref w]) rfl rfl rfl rfl ?_
    refine ax_get rfl (am_ov_0 _ _ _) (am_wk_mut0 hk_w) rfl rfl ?_
    show am_ex d 36 37 [some (.ref w), some (.int p), some (.int q), some (.int (nI j))] [.ref (w + 1)] (am_ov h w W1) _
    refine ax_s (pc' := 38) (st' := [.int (nI j), .ref (w + 1)]) rfl rfl rfl rfl ?_
    refine ax_s (pc' := 39) (st' := [.int 0, .int (nI j), .ref (w + 1)]) rfl rfl rfl rfl ?_
    refine ax_ast rfl (am_ov_at _ _ _ 1 (by decide)) (am_wk_mut hk_w 1 (by decide)) rfl (by omega) (by decide) (am_ov_set _ _ _ 1 j _ (by decide) rfl) ?_
    refine ax_s (pc' := 43) (ls' := [some (.ref w), some (.int p), some (.int q), some (.int ((nI j) + 1))]) (st' := []) rfl rfl rfl rfl ?_
    rw [nI_1]
    refine ax_s (pc' := 27) (st' := []) rfl rfl rfl rfl ?_
    exact lp_begin hk_w k (j + 1) _ (by omega) hQ
theorem ct_begin {d : Nat} {h : am_H} {w : Nat} {W : Nat → Nat → Int32} {p q : Int32} {Q : Option Value → am_H → Prop} (hk_w : am_wk h w)  (hQ : Q none (am_ov h w (w_bg W p q))) : am_mt d 36 [.ref w, .int p, .int q] (am_ov h w W) Q := by
  refine ax_in (ls := [some (.ref w), some (.int p), some (.int q), none]) rfl ?_
  refine ax_s (pc' := 1) (st' := [.ref w]) rfl rfl rfl rfl ?_
  refine ax_s (pc' := 2) (st' := [.int p, .ref w]) rfl rfl rfl rfl ?_
  refine ax_put rfl (am_ov_0 _ _ _) (am_wk_mut0 hk_w) rfl (show 0 + 1 ≤ _ from Nat.le_of_ble_eq_true rfl) rfl (am_ov_set0 _ _ _ 0 _ rfl) ?_
  refine ax_s (pc' := 6) (st' := [.ref w]) rfl rfl rfl rfl ?_
  refine ax_s (pc' := 7) (st' := [.int q, .ref w]) rfl rfl rfl rfl ?_
  refine ax_put rfl (am_ov_0 _ _ _) (am_wk_mut0 hk_w) rfl (show 1 + 1 ≤ _ from Nat.le_of_ble_eq_true rfl) rfl (am_ov_set0 _ _ _ 1 _ rfl) ?_
  refine ax_s (pc' := 11) (st' := [.ref w]) rfl rfl rfl rfl ?_
  refine ax_s (pc' := 12) (st' := [.int 0, .ref w]) rfl rfl rfl rfl ?_
  refine ax_put rfl (am_ov_0 _ _ _) (am_wk_mut0 hk_w) rfl (show 2 + 1 ≤ _ from Nat.le_of_ble_eq_true rfl) rfl (am_ov_set0 _ _ _ 2 _ rfl) ?_
  refine ax_s (pc' := 16) (st' := [.ref w]) rfl rfl rfl rfl ?_
  refine ax_s (pc' := 17) (st' := [.int 0, .ref w]) rfl rfl rfl rfl ?_
  refine ax_put rfl (am_ov_0 _ _ _) (am_wk_mut0 hk_w) rfl (show 3 + 1 ≤ _ from Nat.le_of_ble_eq_true rfl) rfl (am_ov_set0 _ _ _ 3 _ rfl) ?_
  refine ax_s (pc' := 21) (st' := [.ref w]) rfl rfl rfl rfl ?_
  refine ax_s (pc' := 22) (st' := [.int 0, .ref w]) rfl rfl rfl rfl ?_
  refine ax_put rfl (am_ov_0 _ _ _) (am_wk_mut0 hk_w) rfl (show 4 + 1 ≤ _ from Nat.le_of_ble_eq_true rfl) rfl (am_ov_set0 _ _ _ 4 _ rfl) ?_
  refine ax_s (pc' := 26) (st' := [.int 0]) rfl rfl rfl rfl ?_
  refine ax_s (pc' := 27) (ls' := [some (.ref w), some (.int p), some (.int q), some (.int 0)]) (st' := []) rfl rfl rfl rfl ?_
  exact lp_begin hk_w 12 0 _ (by omega) hQ
theorem ct_addParty {d : Nat} {h : am_H} {w : Nat} {W : Nat → Nat → Int32} {n : Nat} {x p q : Int32} {Q : Option Value → am_H → Prop} (hk_w : am_wk h w) (hn : W 0 4 = nI n) (hn6 : n < 6)  (hQ : Q none (am_ov h w (w_ap W n x p q))) : am_mt (d + 1) 40 [.ref w, .int x, .int p, .int q] (am_ov h w W) Q := by
  refine ax_in (ls := [some (.ref w), some (.int x), some (.int p), some (.int q)]) rfl ?_
  refine ax_s (pc' := 1) (st' := [.ref w]) rfl rfl rfl rfl ?_
  refine ax_get rfl (am_ov_0 _ _ _) (am_wk_mut0 hk_w) rfl rfl ?_
  show am_ex (d + 1) 40 4 [some (.ref w), some (.int x), some (.int p), some (.int q)] [.int (W 0 4)] (am_ov h w W) _
  refine ax_if_lt rfl (fun c4 => absurd c4 (by rw [hn]; exact nI_pos (by omega))) (fun c4 => ?_)
  refine ax_s (pc' := 8) (st' := [.ref w]) rfl rfl rfl rfl ?_
  refine ax_get rfl (am_ov_0 _ _ _) (am_wk_mut0 hk_w) rfl rfl ?_
  show am_ex (d + 1) 40 11 [some (.ref w), some (.int x), some (.int p), some (.int q)] [.int (W 0 4)] (am_ov h w W) _
  refine ax_s (pc' := 13) (st' := [.int 6, .int (W 0 4)]) rfl rfl rfl rfl ?_
  refine ax_cmp_lt rfl (fun c13 => ?_) (fun c13 => absurd (by rw [hn]; exact nI_lt (b := 6) (by omega) (by omega)) c13)
  refine ax_s (pc' := 18) (st' := [.ref w]) rfl rfl rfl rfl ?_
  refine ax_get rfl (am_ov_0 _ _ _) (am_wk_mut0 hk_w) rfl rfl ?_
  show am_ex (d + 1) 40 21 [some (.ref w), some (.int x), some (.int p), some (.int q)] [.ref (w + 2)] (am_ov h w W) _
  refine ax_s (pc' := 22) (st' := [.ref w, .ref (w + 2)]) rfl rfl rfl rfl ?_
  refine ax_get rfl (am_ov_0 _ _ _) (am_wk_mut0 hk_w) rfl rfl ?_
  show am_ex (d + 1) 40 25 [some (.ref w), some (.int x), some (.int p), some (.int q)] [.int (W 0 4), .ref (w + 2)] (am_ov h w W) _
  refine ax_s (pc' := 26) (st' := [.int x, .int (W 0 4), .ref (w + 2)]) rfl rfl rfl rfl ?_
  refine ax_ast rfl (am_ov_at _ _ _ 2 (by decide)) (am_wk_mut hk_w 2 (by decide)) hn (by omega) (by decide) (am_ov_set _ _ _ 2 n _ (by decide) rfl) ?_
  refine ax_s (pc' := 28) (st' := [.ref w]) rfl rfl rfl rfl ?_
  refine ax_get rfl (am_ov_0 _ _ _) (am_wk_mut0 hk_w) rfl rfl ?_
  show am_ex (d + 1) 40 31 [some (.ref w), some (.int x), some (.int p), some (.int q)] [.ref (w + 3)] (am_ov h w (am_u W 2 n x)) _
  refine ax_s (pc' := 32) (st' := [.ref w, .ref (w + 3)]) rfl rfl rfl rfl ?_
  refine ax_get rfl (am_ov_0 _ _ _) (am_wk_mut0 hk_w) rfl rfl ?_
  show am_ex (d + 1) 40 35 [some (.ref w), some (.int x), some (.int p), some (.int q)] [.int (W 0 4), .ref (w + 3)] (am_ov h w (am_u W 2 n x)) _
  refine ax_s (pc' := 36) (st' := [.int p, .int (W 0 4), .ref (w + 3)]) rfl rfl rfl rfl ?_
  refine ax_ast rfl (am_ov_at _ _ _ 3 (by decide)) (am_wk_mut hk_w 3 (by decide)) hn (by omega) (by decide) (am_ov_set _ _ _ 3 n _ (by decide) rfl) ?_
  refine ax_s (pc' := 38) (st' := [.ref w]) rfl rfl rfl rfl ?_
  refine ax_get rfl (am_ov_0 _ _ _) (am_wk_mut0 hk_w) rfl rfl ?_
  show am_ex (d + 1) 40 41 [some (.ref w), some (.int x), some (.int p), some (.int q)] [.ref (w + 4)] (am_ov h w (am_u (am_u W 2 n x) 3 n p)) _
  refine ax_s (pc' := 42) (st' := [.ref w, .ref (w + 4)]) rfl rfl rfl rfl ?_
  refine ax_get rfl (am_ov_0 _ _ _) (am_wk_mut0 hk_w) rfl rfl ?_
  show am_ex (d + 1) 40 45 [some (.ref w), some (.int x), some (.int p), some (.int q)] [.int (W 0 4), .ref (w + 4)] (am_ov h w (am_u (am_u W 2 n x) 3 n p)) _
  refine ax_s (pc' := 46) (st' := [.int q, .int (W 0 4), .ref (w + 4)]) rfl rfl rfl rfl ?_
  refine ax_ast rfl (am_ov_at _ _ _ 4 (by decide)) (am_wk_mut hk_w 4 (by decide)) hn (by omega) (by decide) (am_ov_set _ _ _ 4 n _ (by decide) rfl) ?_
  refine ax_s (pc' := 48) (st' := [.ref w]) rfl rfl rfl rfl ?_
  refine ax_s (pc' := 49) (st' := [.ref w, .ref w]) rfl rfl rfl rfl ?_
  refine ax_get rfl (am_ov_0 _ _ _) (am_wk_mut0 hk_w) rfl rfl ?_
  show am_ex (d + 1) 40 52 [some (.ref w), some (.int x), some (.int p), some (.int q)] [.int (W 0 4), .ref w] (am_ov h w (am_u (am_u (am_u W 2 n x) 3 n p) 4 n q)) _
  refine ax_s (pc' := 53) (st' := [.int 1, .int (W 0 4), .ref w]) rfl rfl rfl rfl ?_
  refine ax_s (pc' := 54) (st' := [.int ((W 0 4) + 1), .ref w]) rfl rfl rfl rfl ?_
  refine ax_put rfl (am_ov_0 _ _ _) (am_wk_mut0 hk_w) rfl (show 4 + 1 ≤ _ from Nat.le_of_ble_eq_true rfl) rfl (am_ov_set0 _ _ _ 4 _ rfl) ?_
  refine ax_s (pc' := 58) (st' := [.ref w]) rfl rfl rfl rfl ?_
  refine ax_s (pc' := 59) (st' := [.ref w, .ref w]) rfl rfl rfl rfl ?_
  refine ax_get rfl (am_ov_0 _ _ _) (am_wk_mut0 hk_w) rfl rfl ?_
  show am_ex (d + 1) 40 62 [some (.ref w), some (.int x), some (.int p), some (.int q)] [.int ((W 0 4) + 1), .ref w] (am_ov h w (am_u (am_u (am_u (am_u W 2 n x) 3 n p) 4 n q) 0 4 ((W 0 4) + 1))) _
  refine ax_s (pc' := 63) (st' := [.int 1, .int ((W 0 4) + 1), .ref w]) rfl rfl rfl rfl ?_
  refine ax_s (pc' := 64) (st' := [.int (((W 0 4) + 1) - 1), .ref w]) rfl rfl rfl rfl ?_
  refine ax_call (vs := [.ref w, .int (((W 0 4) + 1) - 1)]) (rr := []) rfl rfl (am_arg_v (vs := [.ref w, .int (((W 0 4) + 1) - 1)]) (rr := []) (by decide) rfl rfl rfl (Nat.le_of_ble_eq_true rfl) (Nat.le_of_ble_eq_true rfl) (by decide) rfl (am_ov_0 _ _ _) (am_wk_mut0 hk_w) rfl) ?_
  refine ct_comeAgain hk_w (by rw [hn, nI_1, nI_pred]) (by omega) ?_
  show am_ex (d + 1) 40 67 [some (.ref w), some (.int x), some (.int p), some (.int q)] [] (am_ov h w (w_ca (am_u (am_u (am_u (am_u W 2 n x) 3 n p) 4 n q) 0 4 ((W 0 4) + 1)) n)) _
  refine ax_r rfl rfl rfl ?_
  exact hQ
theorem ct_takeFrom {d : Nat} {h : am_H} {w v : Nat} {W V : Nat → Nat → Int32} {Q : Option Value → am_H → Prop} (hk_w : am_wk h w) (hk_v : am_wk h v) (hd : v + 9 ≤ w ∨ w + 9 ≤ v) (hc_w : w_cl W) (hc_v : w_cl V) (hQ : Q none (am_ov (am_ov h v V) w V)) : am_mt (d + 1) 43 [.ref w, .ref v] (am_ov (am_ov h v V) w W) Q := by
  refine ax_in (ls := [some (.ref w), some (.ref v)]) rfl ?_
  refine ax_s (pc' := 1) (st' := [.ref w]) rfl rfl rfl rfl ?_
  refine ax_s (pc' := 2) (st' := [.ref v, .ref w]) rfl rfl rfl rfl ?_
  refine ax_get rfl ((am_ov_out _ _ _ (by omega)).trans (am_ov_0 _ _ _)) (am_mut_iff.mpr ⟨hk_v.1, by have q := hk_v.2; show v < h.2.1 + 5; omega⟩) rfl rfl ?_
  show am_ex (d + 1) 43 5 [some (.ref w), some (.ref v)] [.int (V 0 0), .ref w] (am_ov (am_ov h v V) w W) _
  refine ax_put rfl (am_ov_0 _ _ _) (am_wk_mut0 (h := (am_ov h v V)) hk_w) rfl (show 0 + 1 ≤ _ from Nat.le_of_ble_eq_true rfl) rfl (am_ov_set0 _ _ _ 0 _ rfl) ?_
  refine ax_s (pc' := 9) (st' := [.ref w]) rfl rfl rfl rfl ?_
  refine ax_s (pc' := 10) (st' := [.ref v, .ref w]) rfl rfl rfl rfl ?_
  refine ax_get rfl ((am_ov_out _ _ _ (by omega)).trans (am_ov_0 _ _ _)) (am_mut_iff.mpr ⟨hk_v.1, by have q := hk_v.2; show v < h.2.1 + 5; omega⟩) rfl rfl ?_
  show am_ex (d + 1) 43 13 [some (.ref w), some (.ref v)] [.int (V 0 1), .ref w] (am_ov (am_ov h v V) w (am_u W 0 0 (V 0 0))) _
  refine ax_put rfl (am_ov_0 _ _ _) (am_wk_mut0 (h := (am_ov h v V)) hk_w) rfl (show 1 + 1 ≤ _ from Nat.le_of_ble_eq_true rfl) rfl (am_ov_set0 _ _ _ 1 _ rfl) ?_
  refine ax_s (pc' := 17) (st' := [.ref w]) rfl rfl rfl rfl ?_
  refine ax_s (pc' := 18) (st' := [.ref v, .ref w]) rfl rfl rfl rfl ?_
  refine ax_get rfl ((am_ov_out _ _ _ (by omega)).trans (am_ov_0 _ _ _)) (am_mut_iff.mpr ⟨hk_v.1, by have q := hk_v.2; show v < h.2.1 + 5; omega⟩) rfl rfl ?_
  show am_ex (d + 1) 43 21 [some (.ref w), some (.ref v)] [.int (V 0 2), .ref w] (am_ov (am_ov h v V) w (am_u (am_u W 0 0 (V 0 0)) 0 1 (V 0 1))) _
  refine ax_put rfl (am_ov_0 _ _ _) (am_wk_mut0 (h := (am_ov h v V)) hk_w) rfl (show 2 + 1 ≤ _ from Nat.le_of_ble_eq_true rfl) rfl (am_ov_set0 _ _ _ 2 _ rfl) ?_
  refine ax_s (pc' := 25) (st' := [.ref w]) rfl rfl rfl rfl ?_
  refine ax_s (pc' := 26) (st' := [.ref v, .ref w]) rfl rfl rfl rfl ?_
  refine ax_get rfl ((am_ov_out _ _ _ (by omega)).trans (am_ov_0 _ _ _)) (am_mut_iff.mpr ⟨hk_v.1, by have q := hk_v.2; show v < h.2.1 + 5; omega⟩) rfl rfl ?_
  show am_ex (d + 1) 43 29 [some (.ref w), some (.ref v)] [.int (V 0 3), .ref w] (am_ov (am_ov h v V) w (am_u (am_u (am_u W 0 0 (V 0 0)) 0 1 (V 0 1)) 0 2 (V 0 2))) _
  refine ax_put rfl (am_ov_0 _ _ _) (am_wk_mut0 (h := (am_ov h v V)) hk_w) rfl (show 3 + 1 ≤ _ from Nat.le_of_ble_eq_true rfl) rfl (am_ov_set0 _ _ _ 3 _ rfl) ?_
  refine ax_s (pc' := 33) (st' := [.ref w]) rfl rfl rfl rfl ?_
  refine ax_s (pc' := 34) (st' := [.ref v, .ref w]) rfl rfl rfl rfl ?_
  refine ax_get rfl ((am_ov_out _ _ _ (by omega)).trans (am_ov_0 _ _ _)) (am_mut_iff.mpr ⟨hk_v.1, by have q := hk_v.2; show v < h.2.1 + 5; omega⟩) rfl rfl ?_
  show am_ex (d + 1) 43 37 [some (.ref w), some (.ref v)] [.int (V 0 4), .ref w] (am_ov (am_ov h v V) w (am_u (am_u (am_u (am_u W 0 0 (V 0 0)) 0 1 (V 0 1)) 0 2 (V 0 2)) 0 3 (V 0 3))) _
  refine ax_put rfl (am_ov_0 _ _ _) (am_wk_mut0 (h := (am_ov h v V)) hk_w) rfl (show 4 + 1 ≤ _ from Nat.le_of_ble_eq_true rfl) rfl (am_ov_set0 _ _ _ 4 _ rfl) ?_
  refine ax_s (pc' := 41) (st' := [.ref v]) rfl rfl rfl rfl ?_
  refine ax_get rfl ((am_ov_out _ _ _ (by omega)).trans (am_ov_0 _ _ _)) (am_mut_iff.mpr ⟨hk_v.1, by have q := hk_v.2; show v < h.2.1 + 5; omega⟩) rfl rfl ?_
  show am_ex (d + 1) 43 44 [some (.ref w), some (.ref v)] [.ref (v + 1)] (am_ov (am_ov h v V) w (am_u (am_u (am_u (am_u (am_u W 0 0 (V 0 0)) 0 1 (V 0 1)) 0 2 (V 0 2)) 0 3 (V 0 3)) 0 4 (V 0 4))) _
  refine ax_s (pc' := 45) (st' := [.int 0, .ref (v + 1)]) rfl rfl rfl rfl ?_
  refine ax_s (pc' := 46) (st' := [.ref w, .int 0, .ref (v + 1)]) rfl rfl rfl rfl ?_
  refine ax_get rfl (am_ov_0 _ _ _) (am_wk_mut0 (h := (am_ov h v V)) hk_w) rfl rfl ?_
  show am_ex (d + 1) 43 49 [some (.ref w), some (.ref v)] [.ref (w + 1), .int 0, .ref (v + 1)] (am_ov (am_ov h v V) w (am_u (am_u (am_u (am_u (am_u W 0 0 (V 0 0)) 0 1 (V 0 1)) 0 2 (V 0 2)) 0 3 (V 0 3)) 0 4 (V 0 4))) _
  refine ax_s (pc' := 50) (st' := [.int 0, .ref (w + 1), .int 0, .ref (v + 1)]) rfl rfl rfl rfl ?_
  refine ax_s (pc' := 52) (st' := [.int 12, .int 0, .ref (w + 1), .int 0, .ref (v + 1)]) rfl rfl rfl rfl ?_
  refine ax_cpy (s1 := 0) (d1 := 0) (m1 := 12) rfl ((am_ov_out _ _ _ (by omega)).trans (am_ov_at _ _ _ 1 (by decide))) (am_ov_at _ _ _ 1 (by decide)) rfl rfl rfl (by decide) (by decide) ⟨by decide, by decide⟩ (decide_eq_true (by have q := hk_v.2; show v + 1 < h.2.1 + 5; omega)) (am_wk_mut (h := (am_ov h v V)) hk_w 1 (by decide)) (Nat.le_of_ble_eq_true rfl) (am_ov_setc _ _ _ 1 (V 1) (by decide) (congrArg (fun q => (Sum.inr (Sum.inl (0, 12, q)) : am_C)) (va_cpy_cl (n := 12) (fun i hi => hc_v 1 i hi) (fun i hi => hc_w 1 i hi)))) ?_
  refine ax_s (pc' := 56) (st' := [.ref v]) rfl rfl rfl rfl ?_
  refine ax_get rfl ((am_ov_out _ _ _ (by omega)).trans (am_ov_0 _ _ _)) (am_mut_iff.mpr ⟨hk_v.1, by have q := hk_v.2; show v < h.2.1 + 5; omega⟩) rfl rfl ?_
  show am_ex (d + 1) 43 59 [some (.ref w), some (.ref v)] [.ref (v + 2)] (am_ov (am_ov h v V) w (am_uc (am_u (am_u (am_u (am_u (am_u W 0 0 (V 0 0)) 0 1 (V 0 1)) 0 2 (V 0 2)) 0 3 (V 0 3)) 0 4 (V 0 4)) 1 (V 1))) _
  refine ax_s (pc' := 60) (st' := [.int 0, .ref (v + 2)]) rfl rfl rfl rfl ?_
  refine ax_s (pc' := 61) (st' := [.ref w, .int 0, .ref (v + 2)]) rfl rfl rfl rfl ?_
  refine ax_get rfl (am_ov_0 _ _ _) (am_wk_mut0 (h := (am_ov h v V)) hk_w) rfl rfl ?_
  show am_ex (d + 1) 43 64 [some (.ref w), some (.ref v)] [.ref (w + 2), .int 0, .ref (v + 2)] (am_ov (am_ov h v V) w (am_uc (am_u (am_u (am_u (am_u (am_u W 0 0 (V 0 0)) 0 1 (V 0 1)) 0 2 (V 0 2)) 0 3 (V 0 3)) 0 4 (V 0 4)) 1 (V 1))) _
  refine ax_s (pc' := 65) (st' := [.int 0, .ref (w + 2), .int 0, .ref (v + 2)]) rfl rfl rfl rfl ?_
  refine ax_s (pc' := 67) (st' := [.int 6, .int 0, .ref (w + 2), .int 0, .ref (v + 2)]) rfl rfl rfl rfl ?_
  refine ax_cpy (s1 := 0) (d1 := 0) (m1 := 6) rfl ((am_ov_out _ _ _ (by omega)).trans (am_ov_at _ _ _ 2 (by decide))) (am_ov_at _ _ _ 2 (by decide)) rfl rfl rfl (by decide) (by decide) ⟨by decide, by decide⟩ (decide_eq_true (by have q := hk_v.2; show v + 2 < h.2.1 + 5; omega)) (am_wk_mut (h := (am_ov h v V)) hk_w 2 (by decide)) (Nat.le_of_ble_eq_true rfl) (am_ov_setc _ _ _ 2 (V 2) (by decide) (congrArg (fun q => (Sum.inr (Sum.inl (0, 6, q)) : am_C)) (va_cpy_cl (n := 6) (fun i hi => hc_v 2 i hi) (fun i hi => hc_w 2 i hi)))) ?_
  refine ax_s (pc' := 71) (st' := [.ref v]) rfl rfl rfl rfl ?_
  refine ax_get rfl ((am_ov_out _ _ _ (by omega)).trans (am_ov_0 _ _ _)) (am_mut_iff.mpr ⟨hk_v.1, by have q := hk_v.2; show v < h.2.1 + 5; omega⟩) rfl rfl ?_
  show am_ex (d + 1) 43 74 [some (.ref w), some (.ref v)] [.ref (v + 3)] (am_ov (am_ov h v V) w (am_uc (am_uc (am_u (am_u (am_u (am_u (am_u W 0 0 (V 0 0)) 0 1 (V 0 1)) 0 2 (V 0 2)) 0 3 (V 0 3)) 0 4 (V 0 4)) 1 (V 1)) 2 (V 2))) _
  refine ax_s (pc' := 75) (st' := [.int 0, .ref (v + 3)]) rfl rfl rfl rfl ?_
  refine ax_s (pc' := 76) (st' := [.ref w, .int 0, .ref (v + 3)]) rfl rfl rfl rfl ?_
  refine ax_get rfl (am_ov_0 _ _ _) (am_wk_mut0 (h := (am_ov h v V)) hk_w) rfl rfl ?_
  show am_ex (d + 1) 43 79 [some (.ref w), some (.ref v)] [.ref (w + 3), .int 0, .ref (v + 3)] (am_ov (am_ov h v V) w (am_uc (am_uc (am_u (am_u (am_u (am_u (am_u W 0 0 (V 0 0)) 0 1 (V 0 1)) 0 2 (V 0 2)) 0 3 (V 0 3)) 0 4 (V 0 4)) 1 (V 1)) 2 (V 2))) _
  refine ax_s (pc' := 80) (st' := [.int 0, .ref (w + 3), .int 0, .ref (v + 3)]) rfl rfl rfl rfl ?_
  refine ax_s (pc' := 82) (st' := [.int 6, .int 0, .ref (w + 3), .int 0, .ref (v + 3)]) rfl rfl rfl rfl ?_
  refine ax_cpy (s1 := 0) (d1 := 0) (m1 := 6) rfl ((am_ov_out _ _ _ (by omega)).trans (am_ov_at _ _ _ 3 (by decide))) (am_ov_at _ _ _ 3 (by decide)) rfl rfl rfl (by decide) (by decide) ⟨by decide, by decide⟩ (decide_eq_true (by have q := hk_v.2; show v + 3 < h.2.1 + 5; omega)) (am_wk_mut (h := (am_ov h v V)) hk_w 3 (by decide)) (Nat.le_of_ble_eq_true rfl) (am_ov_setc _ _ _ 3 (V 3) (by decide) (congrArg (fun q => (Sum.inr (Sum.inl (0, 6, q)) : am_C)) (va_cpy_cl (n := 6) (fun i hi => hc_v 3 i hi) (fun i hi => hc_w 3 i hi)))) ?_
  refine ax_s (pc' := 86) (st' := [.ref v]) rfl rfl rfl rfl ?_
  refine ax_get rfl ((am_ov_out _ _ _ (by omega)).trans (am_ov_0 _ _ _)) (am_mut_iff.mpr ⟨hk_v.1, by have q := hk_v.2; show v < h.2.1 + 5; omega⟩) rfl rfl ?_
  show am_ex (d + 1) 43 89 [some (.ref w), some (.ref v)] [.ref (v + 4)] (am_ov (am_ov h v V) w (am_uc (am_uc (am_uc (am_u (am_u (am_u (am_u (am_u W 0 0 (V 0 0)) 0 1 (V 0 1)) 0 2 (V 0 2)) 0 3 (V 0 3)) 0 4 (V 0 4)) 1 (V 1)) 2 (V 2)) 3 (V 3))) _
  refine ax_s (pc' := 90) (st' := [.int 0, .ref (v + 4)]) rfl rfl rfl rfl ?_
  refine ax_s (pc' := 91) (st' := [.ref w, .int 0, .ref (v + 4)]) rfl rfl rfl rfl ?_
  refine ax_get rfl (am_ov_0 _ _ _) (am_wk_mut0 (h := (am_ov h v V)) hk_w) rfl rfl ?_
  show am_ex (d + 1) 43 94 [some (.ref w), some (.ref v)] [.ref (w + 4), .int 0, .ref (v + 4)] (am_ov (am_ov h v V) w (am_uc (am_uc (am_uc (am_u (am_u (am_u (am_u (am_u W 0 0 (V 0 0)) 0 1 (V 0 1)) 0 2 (V 0 2)) 0 3 (V 0 3)) 0 4 (V 0 4)) 1 (V 1)) 2 (V 2)) 3 (V 3))) _
  refine ax_s (pc' := 95) (st' := [.int 0, .ref (w + 4), .int 0, .ref (v + 4)]) rfl rfl rfl rfl ?_
  refine ax_s (pc' := 97) (st' := [.int 6, .int 0, .ref (w + 4), .int 0, .ref (v + 4)]) rfl rfl rfl rfl ?_
  refine ax_cpy (s1 := 0) (d1 := 0) (m1 := 6) rfl ((am_ov_out _ _ _ (by omega)).trans (am_ov_at _ _ _ 4 (by decide))) (am_ov_at _ _ _ 4 (by decide)) rfl rfl rfl (by decide) (by decide) ⟨by decide, by decide⟩ (decide_eq_true (by have q := hk_v.2; show v + 4 < h.2.1 + 5; omega)) (am_wk_mut (h := (am_ov h v V)) hk_w 4 (by decide)) (Nat.le_of_ble_eq_true rfl) (am_ov_setc _ _ _ 4 (V 4) (by decide) (congrArg (fun q => (Sum.inr (Sum.inl (0, 6, q)) : am_C)) (va_cpy_cl (n := 6) (fun i hi => hc_v 4 i hi) (fun i hi => hc_w 4 i hi)))) ?_
  refine ax_s (pc' := 101) (st' := [.ref v]) rfl rfl rfl rfl ?_
  refine ax_get rfl ((am_ov_out _ _ _ (by omega)).trans (am_ov_0 _ _ _)) (am_mut_iff.mpr ⟨hk_v.1, by have q := hk_v.2; show v < h.2.1 + 5; omega⟩) rfl rfl ?_
  show am_ex (d + 1) 43 104 [some (.ref w), some (.ref v)] [.ref (v + 5)] (am_ov (am_ov h v V) w (am_uc (am_uc (am_uc (am_uc (am_u (am_u (am_u (am_u (am_u W 0 0 (V 0 0)) 0 1 (V 0 1)) 0 2 (V 0 2)) 0 3 (V 0 3)) 0 4 (V 0 4)) 1 (V 1)) 2 (V 2)) 3 (V 3)) 4 (V 4))) _
  refine ax_s (pc' := 105) (st' := [.int 0, .ref (v + 5)]) rfl rfl rfl rfl ?_
  refine ax_s (pc' := 106) (st' := [.ref w, .int 0, .ref (v + 5)]) rfl rfl rfl rfl ?_
  refine ax_get rfl (am_ov_0 _ _ _) (am_wk_mut0 (h := (am_ov h v V)) hk_w) rfl rfl ?_
  show am_ex (d + 1) 43 109 [some (.ref w), some (.ref v)] [.ref (w + 5), .int 0, .ref (v + 5)] (am_ov (am_ov h v V) w (am_uc (am_uc (am_uc (am_uc (am_u (am_u (am_u (am_u (am_u W 0 0 (V 0 0)) 0 1 (V 0 1)) 0 2 (V 0 2)) 0 3 (V 0 3)) 0 4 (V 0 4)) 1 (V 1)) 2 (V 2)) 3 (V 3)) 4 (V 4))) _
  refine ax_s (pc' := 110) (st' := [.int 0, .ref (w + 5), .int 0, .ref (v + 5)]) rfl rfl rfl rfl ?_
  refine ax_s (pc' := 112) (st' := [.int 6, .int 0, .ref (w + 5), .int 0, .ref (v + 5)]) rfl rfl rfl rfl ?_
  refine ax_cpy (s1 := 0) (d1 := 0) (m1 := 6) rfl ((am_ov_out _ _ _ (by omega)).trans (am_ov_at _ _ _ 5 (by decide))) (am_ov_at _ _ _ 5 (by decide)) rfl rfl rfl (by decide) (by decide) ⟨by decide, by decide⟩ (decide_eq_true (by have q := hk_v.2; show v + 5 < h.2.1 + 5; omega)) (am_wk_mut (h := (am_ov h v V)) hk_w 5 (by decide)) (Nat.le_of_ble_eq_true rfl) (am_ov_setc _ _ _ 5 (V 5) (by decide) (congrArg (fun q => (Sum.inr (Sum.inl (0, 6, q)) : am_C)) (va_cpy_cl (n := 6) (fun i hi => hc_v 5 i hi) (fun i hi => hc_w 5 i hi)))) ?_
  refine ax_s (pc' := 116) (st' := [.ref v]) rfl rfl rfl rfl ?_
  refine ax_get rfl ((am_ov_out _ _ _ (by omega)).trans (am_ov_0 _ _ _)) (am_mut_iff.mpr ⟨hk_v.1, by have q := hk_v.2; show v < h.2.1 + 5; omega⟩) rfl rfl ?_
  show am_ex (d + 1) 43 119 [some (.ref w), some (.ref v)] [.ref (v + 6)] (am_ov (am_ov h v V) w (am_uc (am_uc (am_uc (am_uc (am_uc (am_u (am_u (am_u (am_u (am_u W 0 0 (V 0 0)) 0 1 (V 0 1)) 0 2 (V 0 2)) 0 3 (V 0 3)) 0 4 (V 0 4)) 1 (V 1)) 2 (V 2)) 3 (V 3)) 4 (V 4)) 5 (V 5))) _
  refine ax_s (pc' := 120) (st' := [.int 0, .ref (v + 6)]) rfl rfl rfl rfl ?_
  refine ax_s (pc' := 121) (st' := [.ref w, .int 0, .ref (v + 6)]) rfl rfl rfl rfl ?_
  refine ax_get rfl (am_ov_0 _ _ _) (am_wk_mut0 (h := (am_ov h v V)) hk_w) rfl rfl ?_
  show am_ex (d + 1) 43 124 [some (.ref w), some (.ref v)] [.ref (w + 6), .int 0, .ref (v + 6)] (am_ov (am_ov h v V) w (am_uc (am_uc (am_uc (am_uc (am_uc (am_u (am_u (am_u (am_u (am_u W 0 0 (V 0 0)) 0 1 (V 0 1)) 0 2 (V 0 2)) 0 3 (V 0 3)) 0 4 (V 0 4)) 1 (V 1)) 2 (V 2)) 3 (V 3)) 4 (V 4)) 5 (V 5))) _
  refine ax_s (pc' := 125) (st' := [.int 0, .ref (w + 6), .int 0, .ref (v + 6)]) rfl rfl rfl rfl ?_
  refine ax_s (pc' := 127) (st' := [.int 6, .int 0, .ref (w + 6), .int 0, .ref (v + 6)]) rfl rfl rfl rfl ?_
  refine ax_cpy (s1 := 0) (d1 := 0) (m1 := 6) rfl ((am_ov_out _ _ _ (by omega)).trans (am_ov_at _ _ _ 6 (by decide))) (am_ov_at _ _ _ 6 (by decide)) rfl rfl rfl (by decide) (by decide) ⟨by decide, by decide⟩ (decide_eq_true (by have q := hk_v.2; show v + 6 < h.2.1 + 5; omega)) (am_wk_mut (h := (am_ov h v V)) hk_w 6 (by decide)) (Nat.le_of_ble_eq_true rfl) (am_ov_setc _ _ _ 6 (V 6) (by decide) (congrArg (fun q => (Sum.inr (Sum.inl (0, 6, q)) : am_C)) (va_cpy_cl (n := 6) (fun i hi => hc_v 6 i hi) (fun i hi => hc_w 6 i hi)))) ?_
  refine ax_s (pc' := 131) (st' := [.ref v]) rfl rfl rfl rfl ?_
  refine ax_get rfl ((am_ov_out _ _ _ (by omega)).trans (am_ov_0 _ _ _)) (am_mut_iff.mpr ⟨hk_v.1, by have q := hk_v.2; show v < h.2.1 + 5; omega⟩) rfl rfl ?_
  show am_ex (d + 1) 43 134 [some (.ref w), some (.ref v)] [.ref (v + 7)] (am_ov (am_ov h v V) w (am_uc (am_uc (am_uc (am_uc (am_uc (am_uc (am_u (am_u (am_u (am_u (am_u W 0 0 (V 0 0)) 0 1 (V 0 1)) 0 2 (V 0 2)) 0 3 (V 0 3)) 0 4 (V 0 4)) 1 (V 1)) 2 (V 2)) 3 (V 3)) 4 (V 4)) 5 (V 5)) 6 (V 6))) _
  refine ax_s (pc' := 135) (st' := [.int 0, .ref (v + 7)]) rfl rfl rfl rfl ?_
  refine ax_s (pc' := 136) (st' := [.ref w, .int 0, .ref (v + 7)]) rfl rfl rfl rfl ?_
  refine ax_get rfl (am_ov_0 _ _ _) (am_wk_mut0 (h := (am_ov h v V)) hk_w) rfl rfl ?_
  show am_ex (d + 1) 43 139 [some (.ref w), some (.ref v)] [.ref (w + 7), .int 0, .ref (v + 7)] (am_ov (am_ov h v V) w (am_uc (am_uc (am_uc (am_uc (am_uc (am_uc (am_u (am_u (am_u (am_u (am_u W 0 0 (V 0 0)) 0 1 (V 0 1)) 0 2 (V 0 2)) 0 3 (V 0 3)) 0 4 (V 0 4)) 1 (V 1)) 2 (V 2)) 3 (V 3)) 4 (V 4)) 5 (V 5)) 6 (V 6))) _
  refine ax_s (pc' := 140) (st' := [.int 0, .ref (w + 7), .int 0, .ref (v + 7)]) rfl rfl rfl rfl ?_
  refine ax_s (pc' := 142) (st' := [.int 6, .int 0, .ref (w + 7), .int 0, .ref (v + 7)]) rfl rfl rfl rfl ?_
  refine ax_cpy (s1 := 0) (d1 := 0) (m1 := 6) rfl ((am_ov_out _ _ _ (by omega)).trans (am_ov_at _ _ _ 7 (by decide))) (am_ov_at _ _ _ 7 (by decide)) rfl rfl rfl (by decide) (by decide) ⟨by decide, by decide⟩ (decide_eq_true (by have q := hk_v.2; show v + 7 < h.2.1 + 5; omega)) (am_wk_mut (h := (am_ov h v V)) hk_w 7 (by decide)) (Nat.le_of_ble_eq_true rfl) (am_ov_setc _ _ _ 7 (V 7) (by decide) (congrArg (fun q => (Sum.inr (Sum.inl (0, 6, q)) : am_C)) (va_cpy_cl (n := 6) (fun i hi => hc_v 7 i hi) (fun i hi => hc_w 7 i hi)))) ?_
  refine ax_s (pc' := 146) (st' := [.ref v]) rfl rfl rfl rfl ?_
  refine ax_get rfl ((am_ov_out _ _ _ (by omega)).trans (am_ov_0 _ _ _)) (am_mut_iff.mpr ⟨hk_v.1, by have q := hk_v.2; show v < h.2.1 + 5; omega⟩) rfl rfl ?_
  show am_ex (d + 1) 43 149 [some (.ref w), some (.ref v)] [.ref (v + 8)] (am_ov (am_ov h v V) w (am_uc (am_uc (am_uc (am_uc (am_uc (am_uc (am_uc (am_u (am_u (am_u (am_u (am_u W 0 0 (V 0 0)) 0 1 (V 0 1)) 0 2 (V 0 2)) 0 3 (V 0 3)) 0 4 (V 0 4)) 1 (V 1)) 2 (V 2)) 3 (V 3)) 4 (V 4)) 5 (V 5)) 6 (V 6)) 7 (V 7))) _
  refine ax_s (pc' := 150) (st' := [.int 0, .ref (v + 8)]) rfl rfl rfl rfl ?_
  refine ax_s (pc' := 151) (st' := [.ref w, .int 0, .ref (v + 8)]) rfl rfl rfl rfl ?_
  refine ax_get rfl (am_ov_0 _ _ _) (am_wk_mut0 (h := (am_ov h v V)) hk_w) rfl rfl ?_
  show am_ex (d + 1) 43 154 [some (.ref w), some (.ref v)] [.ref (w + 8), .int 0, .ref (v + 8)] (am_ov (am_ov h v V) w (am_uc (am_uc (am_uc (am_uc (am_uc (am_uc (am_uc (am_u (am_u (am_u (am_u (am_u W 0 0 (V 0 0)) 0 1 (V 0 1)) 0 2 (V 0 2)) 0 3 (V 0 3)) 0 4 (V 0 4)) 1 (V 1)) 2 (V 2)) 3 (V 3)) 4 (V 4)) 5 (V 5)) 6 (V 6)) 7 (V 7))) _
  refine ax_s (pc' := 155) (st' := [.int 0, .ref (w + 8), .int 0, .ref (v + 8)]) rfl rfl rfl rfl ?_
  refine ax_s (pc' := 157) (st' := [.int 6, .int 0, .ref (w + 8), .int 0, .ref (v + 8)]) rfl rfl rfl rfl ?_
  refine ax_cpy (s1 := 0) (d1 := 0) (m1 := 6) rfl ((am_ov_out _ _ _ (by omega)).trans (am_ov_at _ _ _ 8 (by decide))) (am_ov_at _ _ _ 8 (by decide)) rfl rfl rfl (by decide) (by decide) ⟨by decide, by decide⟩ (decide_eq_true (by have q := hk_v.2; show v + 8 < h.2.1 + 5; omega)) (am_wk_mut (h := (am_ov h v V)) hk_w 8 (by decide)) (Nat.le_of_ble_eq_true rfl) (am_ov_setc _ _ _ 8 (V 8) (by decide) (congrArg (fun q => (Sum.inr (Sum.inl (0, 6, q)) : am_C)) (va_cpy_cl (n := 6) (fun i hi => hc_v 8 i hi) (fun i hi => hc_w 8 i hi)))) ?_
  refine ax_r rfl rfl rfl ?_
  rw [w_tf hc_w hc_v]
  exact hQ
