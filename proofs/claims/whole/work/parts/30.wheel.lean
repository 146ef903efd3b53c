theorem ct_stands {d : Nat} {h : am_H} {w : Nat} {W : Nat → Nat → Int32} {Q : Option Value → am_H → Prop} (hk_w : am_wk h w)  (hQ : Q (some (.int (bI (decide (¬ W 0 4 ≤ 0))))) (am_ov h w W)) : am_mt d 50 [.ref w] (am_ov h w W) Q := by
  refine ax_in (ls := [some (.ref w)]) rfl ?_
  refine ax_s (pc' := 1) (st' := [.ref w]) rfl rfl rfl rfl ?_
  refine ax_get rfl (am_ov_0 _ _ _) (am_wk_mut0 hk_w) rfl rfl ?_
  show am_ex d 50 4 [some (.ref w)] [.int (W 0 4)] (am_ov h w W) _
  refine ax_if_le rfl (fun c4 => ?_) (fun c4 => ?_)
  · refine ax_s (pc' := 12) (st' := [.int 0]) rfl rfl rfl rfl ?_
    refine ax_rb (b := false) rfl rfl ?_
    simpa [bI, c4] using hQ
  · refine ax_s (pc' := 8) (st' := [.int 1]) rfl rfl rfl rfl ?_
    refine ax_s (pc' := 12) (st' := [.int 1]) rfl rfl rfl rfl ?_
    refine ax_rb (b := true) rfl rfl ?_
    simpa [bI, c4] using hQ
theorem ct_hasParty {d : Nat} {h : am_H} {w : Nat} {W : Nat → Nat → Int32} {p : Int32} {Q : Option Value → am_H → Prop} (hk_w : am_wk h w)  (hQ : Q (some (.int (bI (decide (¬ p < 0 ∧ ¬ W 0 4 ≤ p))))) (am_ov h w W)) : am_mt d 63 [.ref w, .int p] (am_ov h w W) Q := by
  refine ax_in (ls := [some (.ref w), some (.int p)]) rfl ?_
  refine ax_s (pc' := 1) (st' := [.int p]) rfl rfl rfl rfl ?_
  refine ax_if_lt rfl (fun c1 => ?_) (fun c1 => ?_)
  · refine ax_s (pc' := 17) (st' := [.int 0]) rfl rfl rfl rfl ?_
    refine ax_rb (b := false) rfl rfl ?_
    simpa [bI, c1] using hQ
  · refine ax_s (pc' := 5) (st' := [.int p]) rfl rfl rfl rfl ?_
    refine ax_s (pc' := 6) (st' := [.ref w, .int p]) rfl rfl rfl rfl ?_
    refine ax_get rfl (am_ov_0 _ _ _) (am_wk_mut0 hk_w) rfl rfl ?_
    show am_ex d 63 9 [some (.ref w), some (.int p)] [.int (W 0 4), .int p] (am_ov h w W) _
    refine ax_cmp_ge rfl (fun c9 => ?_) (fun c9 => ?_)
    · refine ax_s (pc' := 17) (st' := [.int 0]) rfl rfl rfl rfl ?_
      refine ax_rb (b := false) rfl rfl ?_
      simpa [bI, c1, c9] using hQ
    · refine ax_s (pc' := 13) (st' := [.int 1]) rfl rfl rfl rfl ?_
      refine ax_s (pc' := 17) (st' := [.int 1]) rfl rfl rfl rfl ?_
      refine ax_rb (b := true) rfl rfl ?_
      simpa [bI, c1, c9] using hQ
theorem ct_hasGondola {d : Nat} {h : am_H} {w : Nat} {W : Nat → Nat → Int32} {p : Int32} {Q : Option Value → am_H → Prop} (hk_w : am_wk h w)  (hQ : Q (some (.int (bI (decide (¬ p < 0 ∧ ¬ W 0 0 ≤ p))))) (am_ov h w W)) : am_mt d 70 [.ref w, .int p] (am_ov h w W) Q := by
  refine ax_in (ls := [some (.ref w), some (.int p)]) rfl ?_
  refine ax_s (pc' := 1) (st' := [.int p]) rfl rfl rfl rfl ?_
  refine ax_if_lt rfl (fun c1 => ?_) (fun c1 => ?_)
  · refine ax_s (pc' := 17) (st' := [.int 0]) rfl rfl rfl rfl ?_
    refine ax_rb (b := false) rfl rfl ?_
    simpa [bI, c1] using hQ
  · refine ax_s (pc' := 5) (st' := [.int p]) rfl rfl rfl rfl ?_
    refine ax_s (pc' := 6) (st' := [.ref w, .int p]) rfl rfl rfl rfl ?_
    refine ax_get rfl (am_ov_0 _ _ _) (am_wk_mut0 hk_w) rfl rfl ?_
    show am_ex d 70 9 [some (.ref w), some (.int p)] [.int (W 0 0), .int p] (am_ov h w W) _
    refine ax_cmp_ge rfl (fun c9 => ?_) (fun c9 => ?_)
    · refine ax_s (pc' := 17) (st' := [.int 0]) rfl rfl rfl rfl ?_
      refine ax_rb (b := false) rfl rfl ?_
      simpa [bI, c1, c9] using hQ
    · refine ax_s (pc' := 13) (st' := [.int 1]) rfl rfl rfl rfl ?_
      refine ax_s (pc' := 17) (st' := [.int 1]) rfl rfl rfl rfl ?_
      refine ax_rb (b := true) rfl rfl ?_
      simpa [bI, c1, c9] using hQ
theorem ct_hasLeft {d : Nat} {h : am_H} {w : Nat} {W : Nat → Nat → Int32} {p : Int32} {j : Nat} {Q : Option Value → am_H → Prop} (hk_w : am_wk h w) (hp : p = nI j) (hj6 : j < 6)  (hQ : Q (some (.int (bI (decide (W 5 j = 2 ∨ W 5 j = 3))))) (am_ov h w W)) : am_mt d 74 [.ref w, .int p] (am_ov h w W) Q := by
  refine ax_in (ls := [some (.ref w), some (.int p)]) rfl ?_
  refine ax_s (pc' := 1) (st' := [.ref w]) rfl rfl rfl rfl ?_
  refine ax_get rfl (am_ov_0 _ _ _) (am_wk_mut0 hk_w) rfl rfl ?_
  show am_ex d 74 4 [some (.ref w), some (.int p)] [.ref (w + 5)] (am_ov h w W) _
  refine ax_s (pc' := 5) (st' := [.int p, .ref (w + 5)]) rfl rfl rfl rfl ?_
  refine ax_ald (v := (W 5 j)) rfl (am_ov_at _ _ _ 5 (by decide)) (am_wk_in hk_w 5 (by decide)) hp hj6 (by decide) rfl ?_
  refine ax_s (pc' := 7) (st' := [.int 2, .int (W 5 j)]) rfl rfl rfl rfl ?_
  refine ax_cmp_eq rfl (fun c7 => ?_) (fun c7 => ?_)
  · refine ax_s (pc' := 21) (st' := [.int 1]) rfl rfl rfl rfl ?_
    refine ax_s (pc' := 25) (st' := [.int 1]) rfl rfl rfl rfl ?_
    refine ax_rb (b := true) rfl rfl ?_
    simpa [bI, c7] using hQ
  · refine ax_s (pc' := 11) (st' := [.ref w]) rfl rfl rfl rfl ?_
    refine ax_get rfl (am_ov_0 _ _ _) (am_wk_mut0 hk_w) rfl rfl ?_
    show am_ex d 74 14 [some (.ref w), some (.int p)] [.ref (w + 5)] (am_ov h w W) _
    refine ax_s (pc' := 15) (st' := [.int p, .ref (w + 5)]) rfl rfl rfl rfl ?_
    refine ax_ald (v := (W 5 j)) rfl (am_ov_at _ _ _ 5 (by decide)) (am_wk_in hk_w 5 (by decide)) hp hj6 (by decide) rfl ?_
    refine ax_s (pc' := 17) (st' := [.int 3, .int (W 5 j)]) rfl rfl rfl rfl ?_
    refine ax_cmp_ne rfl (fun c17 => ?_) (fun c17 => ?_)
    · refine ax_s (pc' := 25) (st' := [.int 0]) rfl rfl rfl rfl ?_
      refine ax_rb (b := false) rfl rfl ?_
      simpa [bI, c7, c17] using hQ
    · refine ax_s (pc' := 21) (st' := [.int 1]) rfl rfl rfl rfl ?_
      refine ax_s (pc' := 25) (st' := [.int 1]) rfl rfl rfl rfl ?_
      refine ax_rb (b := true) rfl rfl ?_
      simpa [bI, c7, c17] using hQ
theorem ct_seatOf {d : Nat} {h : am_H} {w : Nat} {W : Nat → Nat → Int32} {p : Int32} {j : Nat} {Q : Option Value → am_H → Prop} (hk_w : am_wk h w) (hp : p = nI j) (hj6 : j < 6)  (hQ : Q (some (.int (if W 5 j = 1 then W 6 j else -1000000))) (am_ov h w W)) : am_mt d 76 [.ref w, .int p] (am_ov h w W) Q := by
  refine ax_in (ls := [some (.ref w), some (.int p)]) rfl ?_
  refine ax_s (pc' := 1) (st' := [.ref w]) rfl rfl rfl rfl ?_
  refine ax_get rfl (am_ov_0 _ _ _) (am_wk_mut0 hk_w) rfl rfl ?_
  show am_ex d 76 4 [some (.ref w), some (.int p)] [.ref (w + 5)] (am_ov h w W) _
  refine ax_s (pc' := 5) (st' := [.int p, .ref (w + 5)]) rfl rfl rfl rfl ?_
  refine ax_ald (v := (W 5 j)) rfl (am_ov_at _ _ _ 5 (by decide)) (am_wk_in hk_w 5 (by decide)) hp hj6 (by decide) rfl ?_
  refine ax_s (pc' := 7) (st' := [.int 1, .int (W 5 j)]) rfl rfl rfl rfl ?_
  refine ax_cmp_ne rfl (fun c7 => ?_) (fun c7 => ?_)
  · refine ax_s (pc' := 21) (st' := [.int (-1000000)]) rfl rfl rfl rfl ?_
    refine ax_r rfl rfl rfl ?_
    simpa [c7] using hQ
  · refine ax_s (pc' := 11) (st' := [.ref w]) rfl rfl rfl rfl ?_
    refine ax_get rfl (am_ov_0 _ _ _) (am_wk_mut0 hk_w) rfl rfl ?_
    show am_ex d 76 14 [some (.ref w), some (.int p)] [.ref (w + 6)] (am_ov h w W) _
    refine ax_s (pc' := 15) (st' := [.int p, .ref (w + 6)]) rfl rfl rfl rfl ?_
    refine ax_ald (v := (W 6 j)) rfl (am_ov_at _ _ _ 6 (by decide)) (am_wk_in hk_w 6 (by decide)) hp hj6 (by decide) rfl ?_
    refine ax_s (pc' := 21) (st' := [.int (W 6 j)]) rfl rfl rfl rfl ?_
    refine ax_r rfl rfl rfl ?_
    simpa [c7] using hQ
theorem ct_comeAgain {d : Nat} {h : am_H} {w : Nat} {W : Nat → Nat → Int32} {p : Int32} {j : Nat} {Q : Option Value → am_H → Prop} (hk_w : am_wk h w) (hp : p = nI j) (hj6 : j < 6)  (hQ : Q none (am_ov h w (w_ca W j))) : am_mt d 41 [.ref w, .int p] (am_ov h w W) Q := by
  refine ax_in (ls := [some (.ref w), some (.int p)]) rfl ?_
  refine ax_s (pc' := 1) (st' := [.ref w]) rfl rfl rfl rfl ?_
  refine ax_get rfl (am_ov_0 _ _ _) (am_wk_mut0 hk_w) rfl rfl ?_
  show am_ex d 41 4 [some (.ref w), some (.int p)] [.ref (w + 5)] (am_ov h w W) _
  refine ax_s (pc' := 5) (st' := [.int p, .ref (w + 5)]) rfl rfl rfl rfl ?_
  refine ax_s (pc' := 6) (st' := [.int 0, .int p, .ref (w + 5)]) rfl rfl rfl rfl ?_
  refine ax_ast rfl (am_ov_at _ _ _ 5 (by decide)) (am_wk_mut hk_w 5 (by decide)) hp hj6 (by decide) (am_ov_set _ _ _ 5 j _ (by decide) rfl) ?_
  refine ax_s (pc' := 8) (st' := [.ref w]) rfl rfl rfl rfl ?_
  refine ax_get rfl (am_ov_0 _ _ _) (am_wk_mut0 hk_w) rfl rfl ?_
  show am_ex d 41 11 [some (.ref w), some (.int p)] [.ref (w + 7)] (am_ov h w (am_u W 5 j 0)) _
  refine ax_s (pc' := 12) (st' := [.int p, .ref (w + 7)]) rfl rfl rfl rfl ?_
  refine ax_s (pc' := 13) (st' := [.int 0, .int p, .ref (w + 7)]) rfl rfl rfl rfl ?_
  refine ax_ast rfl (am_ov_at _ _ _ 7 (by decide)) (am_wk_mut hk_w 7 (by decide)) hp hj6 (by decide) (am_ov_set _ _ _ 7 j _ (by decide) rfl) ?_
  refine ax_s (pc' := 15) (st' := [.ref w]) rfl rfl rfl rfl ?_
  refine ax_get rfl (am_ov_0 _ _ _) (am_wk_mut0 hk_w) rfl rfl ?_
  show am_ex d 41 18 [some (.ref w), some (.int p)] [.ref (w + 8)] (am_ov h w (am_u (am_u W 5 j 0) 7 j 0)) _
  refine ax_s (pc' := 19) (st' := [.int p, .ref (w + 8)]) rfl rfl rfl rfl ?_
  refine ax_s (pc' := 20) (st' := [.int 0, .int p, .ref (w + 8)]) rfl rfl rfl rfl ?_
  refine ax_ast rfl (am_ov_at _ _ _ 8 (by decide)) (am_wk_mut hk_w 8 (by decide)) hp hj6 (by decide) (am_ov_set _ _ _ 8 j _ (by decide) rfl) ?_
  refine ax_r rfl rfl rfl ?_
  exact hQ
theorem ct_placeFrom {d : Nat} {h : am_H} {w : Nat} {W : Nat → Nat → Int32} {p q : Int32} {Q : Option Value → am_H → Prop} (hk_w : am_wk h w)  (hQ : Q (some (.int (w_pf W p q))) (am_ov h w W)) : am_mt d 59 [.ref w, .int p, .int q] (am_ov h w W) Q := by
  refine ax_in (ls := [some (.ref w), some (.int p), some (.int q)]) rfl ?_
  refine ax_s (pc' := 1) (st' := [.int p]) rfl rfl rfl rfl ?_
  refine ax_s (pc' := 2) (st' := [.int q, .int p]) rfl rfl rfl rfl ?_
  refine ax_cmp_lt rfl (fun c2 => ?_) (fun c2 => ?_)
  · refine ax_s (pc' := 12) (st' := [.int p]) rfl rfl rfl rfl ?_
    refine ax_s (pc' := 13) (st' := [.int q, .int p]) rfl rfl rfl rfl ?_
    refine ax_s (pc' := 14) (st' := [.int (p - q)]) rfl rfl rfl rfl ?_
    refine ax_s (pc' := 15) (st' := [.ref w, .int (p - q)]) rfl rfl rfl rfl ?_
    refine ax_get rfl (am_ov_0 _ _ _) (am_wk_mut0 hk_w) rfl rfl ?_
    show am_ex d 59 18 [some (.ref w), some (.int p), some (.int q)] [.int (W 0 0), .int (p - q)] (am_ov h w W) _
    refine ax_s (pc' := 19) (st' := [.int ((p - q) + (W 0 0))]) rfl rfl rfl rfl ?_
    refine ax_r rfl rfl rfl ?_
    simpa [w_pf, c2] using hQ
  · refine ax_s (pc' := 6) (st' := [.int p]) rfl rfl rfl rfl ?_
    refine ax_s (pc' := 7) (st' := [.int q, .int p]) rfl rfl rfl rfl ?_
    refine ax_s (pc' := 8) (st' := [.int (p - q)]) rfl rfl rfl rfl ?_
    refine ax_s (pc' := 19) (st' := [.int (p - q)]) rfl rfl rfl rfl ?_
    refine ax_r rfl rfl rfl ?_
    simpa [w_pf, c2] using hQ
theorem ct_pullOf {d : Nat} {h : am_H} {w : Nat} {W : Nat → Nat → Int32} {p : Int32} {Q : Option Value → am_H → Prop} (hk_w : am_wk h w)  (hQ : Q (some (.int (w_pull W p))) (am_ov h w W)) : am_mt d 60 [.ref w, .int p] (am_ov h w W) Q := by
  refine ax_in (ls := [some (.ref w), some (.int p), none]) rfl ?_
  refine ax_s (pc' := 1) (st' := [.int 2]) rfl rfl rfl rfl ?_
  refine ax_s (pc' := 2) (st' := [.int p, .int 2]) rfl rfl rfl rfl ?_
  refine ax_s (pc' := 3) (st' := [.int (2 * p)]) rfl rfl rfl rfl ?_
  refine ax_s (pc' := 4) (st' := [.ref w, .int (2 * p)]) rfl rfl rfl rfl ?_
  refine ax_get rfl (am_ov_0 _ _ _) (am_wk_mut0 hk_w) rfl rfl ?_
  show am_ex d 60 7 [some (.ref w), some (.int p), none] [.int (W 0 0), .int (2 * p)] (am_ov h w W) _
  refine ax_cmp_gt rfl (fun c7 => ?_) (fun c7 => ?_)
  · refine ax_s (pc' := 15) (st' := [.ref w]) rfl rfl rfl rfl ?_
    refine ax_get rfl (am_ov_0 _ _ _) (am_wk_mut0 hk_w) rfl rfl ?_
    show am_ex d 60 18 [some (.ref w), some (.int p), none] [.int (W 0 0)] (am_ov h w W) _
    refine ax_s (pc' := 19) (st' := [.int p, .int (W 0 0)]) rfl rfl rfl rfl ?_
    refine ax_s (pc' := 20) (st' := [.int ((W 0 0) - p)]) rfl rfl rfl rfl ?_
    refine ax_s (pc' := 21) (ls' := [some (.ref w), some (.int p), some (.int ((W 0 0) - p))]) (st' := []) rfl rfl rfl rfl ?_
    refine ax_s (pc' := 22) (st' := [.int ((W 0 0) - p)]) rfl rfl rfl rfl ?_
    refine ax_s (pc' := 23) (st' := [.ref w, .int ((W 0 0) - p)]) rfl rfl rfl rfl ?_
    refine ax_get rfl (am_ov_0 _ _ _) (am_wk_mut0 hk_w) rfl rfl ?_
    show am_ex d 60 26 [some (.ref w), some (.int p), some (.int ((W 0 0) - p))] [.int (W 0 0), .int ((W 0 0) - p)] (am_ov h w W) _
    refine ax_s (pc' := 27) (st' := [.int 2, .int (W 0 0), .int ((W 0 0) - p)]) rfl rfl rfl rfl ?_
    refine ax_s (pc' := 28) (st' := [.int p, .int 2, .int (W 0 0), .int ((W 0 0) - p)]) rfl rfl rfl rfl ?_
    refine ax_s (pc' := 29) (st' := [.int (2 * p), .int (W 0 0), .int ((W 0 0) - p)]) rfl rfl rfl rfl ?_
    refine ax_s (pc' := 30) (st' := [.int ((W 0 0) - (2 * p)), .int ((W 0 0) - p)]) rfl rfl rfl rfl ?_
    refine ax_s (pc' := 31) (st' := [.int (((W 0 0) - p) * ((W 0 0) - (2 * p)))]) rfl rfl rfl rfl ?_
    refine ax_r rfl rfl rfl ?_
    simpa [w_pull, c7] using hQ
  · refine ax_s (pc' := 11) (st' := [.int p]) rfl rfl rfl rfl ?_
    refine ax_s (pc' := 20) (st' := [.int p]) rfl rfl rfl rfl ?_
    refine ax_s (pc' := 21) (ls' := [some (.ref w), some (.int p), some (.int p)]) (st' := []) rfl rfl rfl rfl ?_
    refine ax_s (pc' := 22) (st' := [.int p]) rfl rfl rfl rfl ?_
    refine ax_s (pc' := 23) (st' := [.ref w, .int p]) rfl rfl rfl rfl ?_
    refine ax_get rfl (am_ov_0 _ _ _) (am_wk_mut0 hk_w) rfl rfl ?_
    show am_ex d 60 26 [some (.ref w), some (.int p), some (.int p)] [.int (W 0 0), .int p] (am_ov h w W) _
    refine ax_s (pc' := 27) (st' := [.int 2, .int (W 0 0), .int p]) rfl rfl rfl rfl ?_
    refine ax_s (pc' := 28) (st' := [.int p, .int 2, .int (W 0 0), .int p]) rfl rfl rfl rfl ?_
    refine ax_s (pc' := 29) (st' := [.int (2 * p), .int (W 0 0), .int p]) rfl rfl rfl rfl ?_
    refine ax_s (pc' := 30) (st' := [.int ((W 0 0) - (2 * p)), .int p]) rfl rfl rfl rfl ?_
    refine ax_s (pc' := 31) (st' := [.int (p * ((W 0 0) - (2 * p)))]) rfl rfl rfl rfl ?_
    refine ax_r rfl rfl rfl ?_
    simpa [w_pull, c7] using hQ
theorem ct_placeOf {d : Nat} {h : am_H} {w : Nat} {W : Nat → Nat → Int32} {p : Int32} {Q : Option Value → am_H → Prop} (hk_w : am_wk h w)  (hQ : Q (some (.int (w_pf W p (W 0 2)))) (am_ov h w W)) : am_mt (d + 1) 78 [.ref w, .int p] (am_ov h w W) Q := by
  refine ax_in (ls := [some (.ref w), some (.int p)]) rfl ?_
  refine ax_s (pc' := 1) (st' := [.ref w]) rfl rfl rfl rfl ?_
  refine ax_s (pc' := 2) (st' := [.int p, .ref w]) rfl rfl rfl rfl ?_
  refine ax_s (pc' := 3) (st' := [.ref w, .int p, .ref w]) rfl rfl rfl rfl ?_
  refine ax_get rfl (am_ov_0 _ _ _) (am_wk_mut0 hk_w) rfl rfl ?_
  show am_ex (d + 1) 78 6 [some (.ref w), some (.int p)] [.int (W 0 2), .int p, .ref w] (am_ov h w W) _
  refine ax_call (vs := [.ref w, .int p, .int (W 0 2)]) (rr := []) rfl rfl (am_arg_v (vs := [.ref w, .int p, .int (W 0 2)]) (rr := []) (by decide) rfl rfl rfl (Nat.le_of_ble_eq_true rfl) (Nat.le_of_ble_eq_true rfl) (by decide) rfl (am_ov_0 _ _ _) (am_wk_mut0 hk_w) rfl) ?_
  refine ct_placeFrom hk_w ?_
  show am_ex (d + 1) 78 9 [some (.ref w), some (.int p)] [.int (w_pf W p (W 0 2))] (am_ov h w W) _
  refine ax_r rfl rfl rfl ?_
  exact hQ
theorem ct_nextOfBottom {d : Nat} {h : am_H} {w : Nat} {W : Nat → Nat → Int32} {Q : Option Value → am_H → Prop} (hk_w : am_wk h w)  (hQ : Q (some (.int (w_nb W))) (am_ov h w W)) : am_mt d 67 [.ref w] (am_ov h w W) Q := by
  refine ax_in (ls := [some (.ref w)]) rfl ?_
  refine ax_s (pc' := 1) (st' := [.ref w]) rfl rfl rfl rfl ?_
  refine ax_get rfl (am_ov_0 _ _ _) (am_wk_mut0 hk_w) rfl rfl ?_
  show am_ex d 67 4 [some (.ref w)] [.int (W 0 2)] (am_ov h w W) _
  refine ax_s (pc' := 5) (st' := [.int 1, .int (W 0 2)]) rfl rfl rfl rfl ?_
  refine ax_s (pc' := 6) (st' := [.int ((W 0 2) + 1)]) rfl rfl rfl rfl ?_
  refine ax_s (pc' := 7) (st' := [.ref w, .int ((W 0 2) + 1)]) rfl rfl rfl rfl ?_
  refine ax_get rfl (am_ov_0 _ _ _) (am_wk_mut0 hk_w) rfl rfl ?_
  show am_ex d 67 10 [some (.ref w)] [.int (W 0 0), .int ((W 0 2) + 1)] (am_ov h w W) _
  refine ax_cmp_ge rfl (fun c10 => ?_) (fun c10 => ?_)
  · refine ax_s (pc' := 23) (st' := [.int 0]) rfl rfl rfl rfl ?_
    refine ax_r rfl rfl rfl ?_
    simpa [w_nb, c10] using hQ
  · refine ax_s (pc' := 14) (st' := [.ref w]) rfl rfl rfl rfl ?_
    refine ax_get rfl (am_ov_0 _ _ _) (am_wk_mut0 hk_w) rfl rfl ?_
    show am_ex d 67 17 [some (.ref w)] [.int (W 0 2)] (am_ov h w W) _
    refine ax_s (pc' := 18) (st' := [.int 1, .int (W 0 2)]) rfl rfl rfl rfl ?_
    refine ax_s (pc' := 19) (st' := [.int ((W 0 2) + 1)]) rfl rfl rfl rfl ?_
    refine ax_s (pc' := 23) (st' := [.int ((W 0 2) + 1)]) rfl rfl rfl rfl ?_
    refine ax_r rfl rfl rfl ?_
    simpa [w_nb, c10] using hQ
theorem ct_abs {d : Nat} {h : am_H} {p : Int32} {Q : Option Value → am_H → Prop} (hQ : Q (some (.int (w_abs p))) h) : am_mt d 61 [.int p] h Q := by
  refine ax_in (ls := [some (.int p)]) rfl ?_
  refine ax_s (pc' := 1) (st' := [.int p]) rfl rfl rfl rfl ?_
  refine ax_if_ge rfl (fun c1 => ?_) (fun c1 => ?_)
  · refine ax_s (pc' := 10) (st' := [.int p]) rfl rfl rfl rfl ?_
    refine ax_r rfl rfl rfl ?_
    simpa [w_abs, c1] using hQ
  · refine ax_s (pc' := 5) (st' := [.int p]) rfl rfl rfl rfl ?_
    refine ax_s (pc' := 6) (st' := [.int (-p)]) rfl rfl rfl rfl ?_
    refine ax_s (pc' := 10) (st' := [.int (-p)]) rfl rfl rfl rfl ?_
    refine ax_r rfl rfl rfl ?_
    simpa [w_abs, c1] using hQ
theorem ct_max {d : Nat} {h : am_H} {p q : Int32} {Q : Option Value → am_H → Prop} (hQ : Q (some (.int (if p < q then q else p))) h) : am_mt d 113 [.int p, .int q] h Q := by
  refine ax_in (ls := [some (.int p), some (.int q)]) rfl ?_
  refine ax_s (pc' := 1) (st' := [.int p]) rfl rfl rfl rfl ?_
  refine ax_s (pc' := 2) (st' := [.int q, .int p]) rfl rfl rfl rfl ?_
  refine ax_cmp_lt rfl (fun c2 => ?_) (fun c2 => ?_)
  · refine ax_s (pc' := 10) (st' := [.int q]) rfl rfl rfl rfl ?_
    refine ax_r rfl rfl rfl ?_
    simpa [c2] using hQ
  · refine ax_s (pc' := 6) (st' := [.int p]) rfl rfl rfl rfl ?_
    refine ax_s (pc' := 10) (st' := [.int p]) rfl rfl rfl rfl ?_
    refine ax_r rfl rfl rfl ?_
    simpa [c2] using hQ
theorem ct_min {d : Nat} {h : am_H} {p q : Int32} {Q : Option Value → am_H → Prop} (hQ : Q (some (.int (if q < p then q else p))) h) : am_mt d 112 [.int p, .int q] h Q := by
  refine ax_in (ls := [some (.int p), some (.int q)]) rfl ?_
  refine ax_s (pc' := 1) (st' := [.int p]) rfl rfl rfl rfl ?_
  refine ax_s (pc' := 2) (st' := [.int q, .int p]) rfl rfl rfl rfl ?_
  refine ax_cmp_gt rfl (fun c2 => ?_) (fun c2 => ?_)
  · refine ax_s (pc' := 10) (st' := [.int q]) rfl rfl rfl rfl ?_
    refine ax_r rfl rfl rfl ?_
    simpa [c2] using hQ
  · refine ax_s (pc' := 6) (st' := [.int p]) rfl rfl rfl rfl ?_
    refine ax_s (pc' := 10) (st' := [.int p]) rfl rfl rfl rfl ?_
    refine ax_r rfl rfl rfl ?_
    simpa [c2] using hQ
theorem ct_isInBalanceBy {d : Nat} {h : am_H} {w : Nat} {W : Nat → Nat → Int32} {p : Int32} {Q : Option Value → am_H → Prop} (hk_w : am_wk h w)  (hQ : Q (some (.int (bI (w_bal W p)))) (am_ov h w W)) : am_mt (d + 1) 68 [.ref w, .int p] (am_ov h w W) Q := by
  refine ax_in (ls := [some (.ref w), some (.int p)]) rfl ?_
  refine ax_s (pc' := 1) (st' := [.int p]) rfl rfl rfl rfl ?_
  refine ax_call (vs := [.int p]) (rr := []) rfl rfl (show am_arg _ 61 [.int p] _ = some ([.int p], []) from rfl) ?_
  refine ct_abs ?_
  show am_ex (d + 1) 68 4 [some (.ref w), some (.int p)] [.int (w_abs p)] (am_ov h w W) _
  refine ax_s (pc' := 6) (st' := [.int 10, .int (w_abs p)]) rfl rfl rfl rfl ?_
  refine ax_s (pc' := 7) (st' := [.ref w, .int 10, .int (w_abs p)]) rfl rfl rfl rfl ?_
  refine ax_get rfl (am_ov_0 _ _ _) (am_wk_mut0 hk_w) rfl rfl ?_
  show am_ex (d + 1) 68 10 [some (.ref w), some (.int p)] [.int (W 0 1), .int 10, .int (w_abs p)] (am_ov h w W) _
  refine ax_s (pc' := 11) (st' := [.int (10 * (W 0 1)), .int (w_abs p)]) rfl rfl rfl rfl ?_
  refine ax_cmp_gt rfl (fun c11 => ?_) (fun c11 => ?_)
  · refine ax_s (pc' := 19) (st' := [.int 0]) rfl rfl rfl rfl ?_
    refine ax_rb (b := false) rfl rfl ?_
    simpa [bI, w_bal, c11] using hQ
  · refine ax_s (pc' := 15) (st' := [.int 1]) rfl rfl rfl rfl ?_
    refine ax_s (pc' := 19) (st' := [.int 1]) rfl rfl rfl rfl ?_
    refine ax_rb (b := true) rfl rfl ?_
    simpa [bI, w_bal, c11] using hQ
theorem lp_partyIn {d : Nat} {h : am_H} {w : Nat} {W : Nat → Nat → Int32} {n : Nat} {q : Int32} {Q : Option Value → am_H → Prop} (hk_w : am_wk h w) (hn : W 0 4 = nI n) (hn6 : n ≤ 6)  : ∀ (k j : Nat), j + k = n → Q (some (.int (w_pin W q k j))) (am_ov h w W) → am_ex d 55 2 [some (.ref w), some (.int q), some (.int (nI j))] [] (am_ov h w W) Q
  | 0, j, hj, hQ => by
    refine ax_s (pc' := 3) (st' := [.int (nI j)]) rfl rfl rfl rfl ?_
    refine ax_s (pc' := 4) (st' := [.ref w, .int (nI j)]) rfl rfl rfl rfl ?_
    refine ax_get rfl (am_ov_0 _ _ _) (am_wk_mut0 hk_w) rfl rfl ?_
    show am_ex d 55 7 [some (.ref w), some (.int q), some (.int (nI j))] [.int (W 0 4), .int (nI j)] (am_ov h w W) _
    refine ax_cmp_ge rfl (fun c7 => ?_) (fun c7 => absurd (by rw [hn]; exact nI_le (by omega) (by omega)) c7)
    refine ax_s (pc' := 40) (st' := [.int (-1000000)]) rfl rfl rfl rfl ?_
    refine ax_r rfl rfl rfl ?_
    simpa [w_pin, c7] using hQ
  | k + 1, j, hj, hQ => by
    refine ax_s (pc' := 3) (st' := [.int (nI j)]) rfl rfl rfl rfl ?_
    refine ax_s (pc' := 4) (st' := [.ref w, .int (nI j)]) rfl rfl rfl rfl ?_
    refine ax_get rfl (am_ov_0 _ _ _) (am_wk_mut0 hk_w) rfl rfl ?_
    show am_ex d 55 7 [some (.ref w), some (.int q), some (.int (nI j))] [.int (W 0 4), .int (nI j)] (am_ov h w W) _
    refine ax_cmp_ge rfl (fun c7 => absurd c7 (by rw [hn]; exact nI_ge (by omega) (by omega))) (fun c7 => ?_)
    refine ax_s (pc' := 11) (st' := [.ref w]) rfl rfl rfl rfl ?_
    refine ax_get rfl (am_ov_0 _ _ _) (am_wk_mut0 hk_w) rfl rfl ?_
    show am_ex d 55 14 [some (.ref w), some (.int q), some (.int (nI j))] [.ref (w + 5)] (am_ov h w W) _
    refine ax_s (pc' := 15) (st' := [.int (nI j), .ref (w + 5)]) rfl rfl rfl rfl ?_
    refine ax_ald (v := (W 5 j)) rfl (am_ov_at _ _ _ 5 (by decide)) (am_wk_in hk_w 5 (by decide)) rfl (by omega) (by decide) rfl ?_
    refine ax_s (pc' := 17) (st' := [.int 1, .int (W 5 j)]) rfl rfl rfl rfl ?_
    refine ax_cmp_ne rfl (fun c17 => ?_) (fun c17 => ?_)
    · refine ax_s (pc' := 35) (ls' := [some (.ref w), some (.int q), some (.int ((nI j) + 1))]) (st' := []) rfl rfl rfl rfl ?_
      rw [nI_1]
      refine ax_s (pc' := 2) (st' := []) rfl rfl rfl rfl ?_
      exact lp_partyIn hk_w hn hn6 k (j + 1) (by omega) (by simpa [w_pin, c7, c17] using hQ)
    · refine ax_s (pc' := 21) (st' := [.ref w]) rfl rfl rfl rfl ?_
      refine ax_get rfl (am_ov_0 _ _ _) (am_wk_mut0 hk_w) rfl rfl ?_
      show am_ex d 55 24 [some (.ref w), some (.int q), some (.int (nI j))] [.ref (w + 6)] (am_ov h w W) _
      refine ax_s (pc' := 25) (st' := [.int (nI j), .ref (w + 6)]) rfl rfl rfl rfl ?_
      refine ax_ald (v := (W 6 j)) rfl (am_ov_at _ _ _ 6 (by decide)) (am_wk_in hk_w 6 (by decide)) rfl (by omega) (by decide) rfl ?_
      refine ax_s (pc' := 27) (st' := [.int q, .int (W 6 j)]) rfl rfl rfl rfl ?_
      refine ax_cmp_ne rfl (fun c27 => ?_) (fun c27 => ?_)
      · refine ax_s (pc' := 35) (ls' := [some (.ref w), some (.int q), some (.int ((nI j) + 1))]) (st' := []) rfl rfl rfl rfl ?_
        rw [nI_1]
        refine ax_s (pc' := 2) (st' := []) rfl rfl rfl rfl ?_
        exact lp_partyIn hk_w hn hn6 k (j + 1) (by omega) (by simpa [w_pin, c7, c17, c27] using hQ)
      · refine ax_s (pc' := 31) (st' := [.int (nI j)]) rfl rfl rfl rfl ?_
        refine ax_r rfl rfl rfl ?_
        simpa [w_pin, c7, c17, c27] using hQ
theorem ct_partyIn {d : Nat} {h : am_H} {w : Nat} {W : Nat → Nat → Int32} {n : Nat} {q : Int32} {Q : Option Value → am_H → Prop} (hk_w : am_wk h w) (hn : W 0 4 = nI n) (hn6 : n ≤ 6)  (hQ : Q (some (.int (w_pin W q n 0))) (am_ov h w W)) : am_mt d 55 [.ref w, .int q] (am_ov h w W) Q := by
  refine ax_in (ls := [some (.ref w), some (.int q), none]) rfl ?_
  refine ax_s (pc' := 1) (st' := [.int 0]) rfl rfl rfl rfl ?_
  refine ax_s (pc' := 2) (ls' := [some (.ref w), some (.int q), some (.int 0)]) (st' := []) rfl rfl rfl rfl ?_
  exact lp_partyIn hk_w hn hn6 n 0 (by omega) hQ
theorem lp_whichAre {d : Nat} {h : am_H} {w : Nat} {W : Nat → Nat → Int32} {n : Nat} {q : Int32} {Q : Option Value → am_H → Prop} (hk_w : am_wk h w) (hn : W 0 4 = nI n) (hn6 : n ≤ 6)  : ∀ (k j : Nat) (a : Int32), j + k = n → Q (some (.int (w_wh W q k j a))) (am_ov h w W) → am_ex d 57 4 [some (.ref w), some (.int q), some (.int a), some (.int (nI j))] [] (am_ov h w W) Q
  | 0, j, a, hj, hQ => by
    refine ax_s (pc' := 5) (st' := [.int (nI j)]) rfl rfl rfl rfl ?_
    refine ax_s (pc' := 6) (st' := [.ref w, .int (nI j)]) rfl rfl rfl rfl ?_
    refine ax_get rfl (am_ov_0 _ _ _) (am_wk_mut0 hk_w) rfl rfl ?_
    show am_ex d 57 9 [some (.ref w), some (.int q), some (.int a), some (.int (nI j))] [.int (W 0 4), .int (nI j)] (am_ov h w W) _
    refine ax_cmp_ge rfl (fun c9 => ?_) (fun c9 => absurd (by rw [hn]; exact nI_le (by omega) (by omega)) c9)
    refine ax_s (pc' := 35) (st' := [.int a]) rfl rfl rfl rfl ?_
    refine ax_r rfl rfl rfl ?_
    exact hQ
  | k + 1, j, a, hj, hQ => by
    refine ax_s (pc' := 5) (st' := [.int (nI j)]) rfl rfl rfl rfl ?_
    refine ax_s (pc' := 6) (st' := [.ref w, .int (nI j)]) rfl rfl rfl rfl ?_
    refine ax_get rfl (am_ov_0 _ _ _) (am_wk_mut0 hk_w) rfl rfl ?_
    show am_ex d 57 9 [some (.ref w), some (.int q), some (.int a), some (.int (nI j))] [.int (W 0 4), .int (nI j)] (am_ov h w W) _
    refine ax_cmp_ge rfl (fun c9 => absurd c9 (by rw [hn]; exact nI_ge (by omega) (by omega))) (fun c9 => ?_)
    refine ax_s (pc' := 13) (st' := [.ref w]) rfl rfl rfl rfl ?_
    refine ax_get rfl (am_ov_0 _ _ _) (am_wk_mut0 hk_w) rfl rfl ?_
    show am_ex d 57 16 [some (.ref w), some (.int q), some (.int a), some (.int (nI j))] [.ref (w + 5)] (am_ov h w W) _
    refine ax_s (pc' := 17) (st' := [.int (nI j), .ref (w + 5)]) rfl rfl rfl rfl ?_
    refine ax_ald (v := (W 5 j)) rfl (am_ov_at _ _ _ 5 (by decide)) (am_wk_in hk_w 5 (by decide)) rfl (by omega) (by decide) rfl ?_
    refine ax_s (pc' := 19) (st' := [.int q, .int (W 5 j)]) rfl rfl rfl rfl ?_
    refine ax_cmp_ne rfl (fun c19 => ?_) (fun c19 => ?_)
    · refine ax_s (pc' := 31) (ls' := [some (.ref w), some (.int q), some (.int a), some (.int ((nI j) + 1))]) (st' := []) rfl rfl rfl rfl ?_
      rw [nI_1]
      refine ax_s (pc' := 4) (st' := []) rfl rfl rfl rfl ?_
      exact lp_whichAre hk_w hn hn6 k (j + 1) _ (by omega) (by simpa [w_wh, c9, c19] using hQ)
    · refine ax_s (pc' := 23) (st' := [.int a]) rfl rfl rfl rfl ?_
      refine ax_s (pc' := 24) (st' := [.int 1, .int a]) rfl rfl rfl rfl ?_
      refine ax_s (pc' := 25) (st' := [.int (nI j), .int 1, .int a]) rfl rfl rfl rfl ?_
      refine ax_s (pc' := 26) (st' := [.int (1 <<< ((nI j) &&& 31)), .int a]) rfl rfl rfl rfl ?_
      refine ax_s (pc' := 27) (st' := [.int (a ||| (1 <<< ((nI j) &&& 31)))]) rfl rfl rfl rfl ?_
      refine ax_s (pc' := 28) (ls' := [some (.ref w), some (.int q), some (.int (a ||| (1 <<< ((nI j) &&& 31)))), some (.int (nI j))]) (st' := []) rfl rfl rfl rfl ?_
      refine ax_s (pc' := 31) (ls' := [some (.ref w), some (.int q), some (.int (a ||| (1 <<< ((nI j) &&& 31)))), some (.int ((nI j) + 1))]) (st' := []) rfl rfl rfl rfl ?_
      rw [nI_1]
      refine ax_s (pc' := 4) (st' := []) rfl rfl rfl rfl ?_
      exact lp_whichAre hk_w hn hn6 k (j + 1) _ (by omega) (by simpa [w_wh, c9, c19] using hQ)
theorem ct_whichAre {d : Nat} {h : am_H} {w : Nat} {W : Nat → Nat → Int32} {n : Nat} {q : Int32} {Q : Option Value → am_H → Prop} (hk_w : am_wk h w) (hn : W 0 4 = nI n) (hn6 : n ≤ 6)  (hQ : Q (some (.int (w_wh W q n 0 0))) (am_ov h w W)) : am_mt d 57 [.ref w, .int q] (am_ov h w W) Q := by
  refine ax_in (ls := [some (.ref w), some (.int q), none, none]) rfl ?_
  refine ax_s (pc' := 1) (st' := [.int 0]) rfl rfl rfl rfl ?_
  refine ax_s (pc' := 2) (ls' := [some (.ref w), some (.int q), some (.int 0), none]) (st' := []) rfl rfl rfl rfl ?_
  refine ax_s (pc' := 3) (st' := [.int 0]) rfl rfl rfl rfl ?_
  refine ax_s (pc' := 4) (ls' := [some (.ref w), some (.int q), some (.int 0), some (.int 0)]) (st' := []) rfl rfl rfl rfl ?_
  exact lp_whichAre hk_w hn hn6 n 0 0 (by omega) hQ
