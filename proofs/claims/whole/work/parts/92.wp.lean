theorem wl_bt1 {d : Nat} {X : Nat × (Nat → Int32)} {S : Nat → Nat → Int32} {L : Nat → Int64} {g n : Nat} {W : Nat → Nat → Int32} {N m l : Nat} {y4 y5 y6 : Option Value} {Q : Option Value → am_H → Prop} (hR0 : mR W S 293 g n) (hB : mB W g n) (hG0 : wB W) (hN4 : N ≤ 4) (hm20 : m ≤ 20) (hK : JK S)  (x1 : ¬ (1 <<< ((nI N) &&& 31)) ≤ (nI l) → ∀ S2 : Nat → Nat → Int32, F8 S S2 → l < 16) (k1 : (1 <<< ((nI N) &&& 31)) ≤ (nI l) → am_ex (d + 8) 210 64 [some (.ref 285), some (.int (nI N)), some (.int (nI m)), some (.int ((nI N) - 1)), y4, y5, y6] [] (am_hh X S L) Q) (k2 : ¬ (1 <<< ((nI N) &&& 31)) ≤ (nI l) → ∀ S2 : Nat → Nat → Int32, F8 S S2 → am_ex (d + 8) 210 34 [some (.ref 285), some (.int (nI N)), some (.int (nI m)), some (.int (nI (l + 1))), y4, y5, y6] [] (am_hh X (am_u S2 305 l (w_wv W g n N m l)) L) Q) : am_ex (d + 8) 210 34 [some (.ref 285), some (.int (nI N)), some (.int (nI m)), some (.int (nI l)), y4, y5, y6] [] (am_hh X S L) Q := by
  refine ax_s (pc' := 35) (st' := [.int (nI l)]) rfl rfl rfl rfl ?_
  refine ax_s (pc' := 36) (st' := [.int 1, .int (nI l)]) rfl rfl rfl rfl ?_
  refine ax_s (pc' := 37) (st' := [.int (nI N), .int 1, .int (nI l)]) rfl rfl rfl rfl ?_
  refine ax_s (pc' := 38) (st' := [.int (1 <<< ((nI N) &&& 31)), .int (nI l)]) rfl rfl rfl rfl ?_
  refine ax_cmp_ge rfl (fun c1 => ?_) (fun c1 => ?_)
  · refine ax_s (pc' := 61) (st' := [.int (nI N)]) rfl rfl rfl rfl ?_
    refine ax_s (pc' := 62) (st' := [.int 1, .int (nI N)]) rfl rfl rfl rfl ?_
    refine ax_s (pc' := 63) (st' := [.int ((nI N) - 1)]) rfl rfl rfl rfl ?_
    refine ax_s (pc' := 64) (ls' := [some (.ref 285), some (.int (nI N)), some (.int (nI m)), some (.int ((nI N) - 1)), y4, y5, y6]) (st' := []) rfl rfl rfl rfl ?_
    exact k1 c1
  · refine ax_s (pc' := 42) (st' := [.ref 285]) rfl rfl rfl rfl ?_
    refine ax_get rfl (hh_285 _ _ _) rfl rfl rfl ?_
    show am_ex (d + 8) 210 45 [some (.ref 285), some (.int (nI N)), some (.int (nI m)), some (.int (nI l)), y4, y5, y6] [.ref 305] (am_hh X S L) _
    refine ax_s (pc' := 46) (st' := [.int (nI l), .ref 305]) rfl rfl rfl rfl ?_
    refine ax_s (pc' := 47) (st' := [.ref 285, .int (nI l), .ref 305]) rfl rfl rfl rfl ?_
    refine ax_s (pc' := 48) (st' := [.int (nI l), .ref 285, .int (nI l), .ref 305]) rfl rfl rfl rfl ?_
    refine ax_s (pc' := 49) (st' := [.int (nI N), .int (nI l), .ref 285, .int (nI l), .ref 305]) rfl rfl rfl rfl ?_
    refine ax_s (pc' := 50) (st' := [.int (nI m), .int (nI N), .int (nI l), .ref 285, .int (nI l), .ref 305]) rfl rfl rfl rfl ?_
    refine ax_call (vs := [.ref 285, .int (nI l), .int (nI N), .int (nI m)]) (rr := [.int (nI l), .ref 305]) rfl rfl rfl ?_
    refine kt_wo hR0 hB hG0 hN4 hm20 hK (fun S2 hf2 => ?_)
    show am_ex (d + 8) 210 53 [some (.ref 285), some (.int (nI N)), some (.int (nI m)), some (.int (nI l)), y4, y5, y6] [.int (w_wv W g n N m l), .int (nI l), .ref 305] (am_hh X S2 L) _
    refine ax_ast (j := l) rfl (hh_305 _ _ _) rfl rfl (x1 c1 S2 hf2) (by decide) (am_hh_set _ _ _ 305 l _ rfl) ?_
    refine ax_s (pc' := 57) (ls' := [some (.ref 285), some (.int (nI N)), some (.int (nI m)), some (.int ((nI l) + 1)), y4, y5, y6]) (st' := []) rfl rfl rfl rfl ?_
    rw [nI_1]
    refine ax_s (pc' := 34) (st' := []) rfl rfl rfl rfl ?_
    exact k2 c1 S2 hf2
theorem wl_bt2 {d : Nat} {X : Nat × (Nat → Int32)} {S : Nat → Nat → Int32} {L : Nat → Int64} {N m : Nat} {v : Int32} {y4 y5 y6 : Option Value} {Q : Option Value → am_H → Prop}  (k1 : v < 0 → Q (some (.int (S 305 0))) (am_hh X S L)) (k2 : ¬ v < 0 → am_ex (d + 8) 210 71 [some (.ref 285), some (.int (nI N)), some (.int (nI m)), some (.int v), some (.int 0), y5, y6] [] (am_hh X S L) Q) : am_ex (d + 8) 210 64 [some (.ref 285), some (.int (nI N)), some (.int (nI m)), some (.int v), y4, y5, y6] [] (am_hh X S L) Q := by
  refine ax_s (pc' := 65) (st' := [.int v]) rfl rfl rfl rfl ?_
  refine ax_if_lt rfl (fun c1 => ?_) (fun c1 => ?_)
  · refine ax_s (pc' := 156) (st' := [.ref 285]) rfl rfl rfl rfl ?_
    refine ax_get rfl (hh_285 _ _ _) rfl rfl rfl ?_
    show am_ex (d + 8) 210 159 [some (.ref 285), some (.int (nI N)), some (.int (nI m)), some (.int v), y4, y5, y6] [.ref 305] (am_hh X S L) _
    refine ax_s (pc' := 160) (st' := [.int 0, .ref 305]) rfl rfl rfl rfl ?_
    refine ax_ald (j := 0) (v := (S 305 0)) rfl (hh_305 _ _ _) rfl rfl (by decide) (by decide) rfl ?_
    refine ax_r rfl rfl rfl ?_
    exact k1 c1
  · refine ax_s (pc' := 69) (st' := [.int 0]) rfl rfl rfl rfl ?_
    refine ax_s (pc' := 71) (ls' := [some (.ref 285), some (.int (nI N)), some (.int (nI m)), some (.int v), some (.int 0), y5, y6]) (st' := []) rfl rfl rfl rfl ?_
    exact k2 c1
theorem wl_bt3 {d : Nat} {X : Nat × (Nat → Int32)} {S : Nat → Nat → Int32} {L : Nat → Int64} {N m t l : Nat} {y5 y6 : Option Value} {Q : Option Value → am_H → Prop}  (x1 : ¬ (1 <<< ((nI t) &&& 31)) ≤ (nI l) → (2 * l) < 16) (x2 : ¬ (1 <<< ((nI t) &&& 31)) ≤ (nI l) → ((2 * l) + 1) < 16) (x3 : ¬ (1 <<< ((nI t) &&& 31)) ≤ (nI l) → ¬ ((nI t) - (nI t) / 2 * 2) = 0 → (S 305 (2 * l)) ≤ (S 305 ((2 * l) + 1)) → l < 16) (x4 : ¬ (1 <<< ((nI t) &&& 31)) ≤ (nI l) → ¬ ((nI t) - (nI t) / 2 * 2) = 0 → ¬ (S 305 (2 * l)) ≤ (S 305 ((2 * l) + 1)) → l < 16) (x5 : ¬ (1 <<< ((nI t) &&& 31)) ≤ (nI l) → ((nI t) - (nI t) / 2 * 2) = 0 → (S 305 (2 * l)) ≤ (S 305 ((2 * l) + 1)) → l < 16) (x6 : ¬ (1 <<< ((nI t) &&& 31)) ≤ (nI l) → ((nI t) - (nI t) / 2 * 2) = 0 → ¬ (S 305 (2 * l)) ≤ (S 305 ((2 * l) + 1)) → l < 16) (k1 : (1 <<< ((nI t) &&& 31)) ≤ (nI l) → am_ex (d + 8) 210 64 [some (.ref 285), some (.int (nI N)), some (.int (nI m)), some (.int ((nI t) + (-1))), some (.int (nI l)), y5, y6] [] (am_hh X S L) Q) (k2 : ¬ (1 <<< ((nI t) &&& 31)) ≤ (nI l) → ¬ ((nI t) - (nI t) / 2 * 2) = 0 → (S 305 (2 * l)) ≤ (S 305 ((2 * l) + 1)) → am_ex (d + 8) 210 71 [some (.ref 285), some (.int (nI N)), some (.int (nI m)), some (.int (nI t)), some (.int (nI (l + 1))), some (.int (S 305 (2 * l))), some (.int (S 305 ((2 * l) + 1)))] [] (am_hh X (am_u S 305 l (S 305 (2 * l))) L) Q) (k3 : ¬ (1 <<< ((nI t) &&& 31)) ≤ (nI l) → ¬ ((nI t) - (nI t) / 2 * 2) = 0 → ¬ (S 305 (2 * l)) ≤ (S 305 ((2 * l) + 1)) → am_ex (d + 8) 210 71 [some (.ref 285), some (.int (nI N)), some (.int (nI m)), some (.int (nI t)), some (.int (nI (l + 1))), some (.int (S 305 (2 * l))), some (.int (S 305 ((2 * l) + 1)))] [] (am_hh X (am_u S 305 l (S 305 ((2 * l) + 1))) L) Q) (k4 : ¬ (1 <<< ((nI t) &&& 31)) ≤ (nI l) → ((nI t) - (nI t) / 2 * 2) = 0 → (S 305 (2 * l)) ≤ (S 305 ((2 * l) + 1)) → am_ex (d + 8) 210 71 [some (.ref 285), some (.int (nI N)), some (.int (nI m)), some (.int (nI t)), some (.int (nI (l + 1))), some (.int (S 305 (2 * l))), some (.int (S 305 ((2 * l) + 1)))] [] (am_hh X (am_u S 305 l (S 305 ((2 * l) + 1))) L) Q) (k5 : ¬ (1 <<< ((nI t) &&& 31)) ≤ (nI l) → ((nI t) - (nI t) / 2 * 2) = 0 → ¬ (S 305 (2 * l)) ≤ (S 305 ((2 * l) + 1)) → am_ex (d + 8) 210 71 [some (.ref 285), some (.int (nI N)), some (.int (nI m)), some (.int (nI t)), some (.int (nI (l + 1))), some (.int (S 305 (2 * l))), some (.int (S 305 ((2 * l) + 1)))] [] (am_hh X (am_u S 305 l (S 305 (2 * l))) L) Q) : am_ex (d + 8) 210 71 [some (.ref 285), some (.int (nI N)), some (.int (nI m)), some (.int (nI t)), some (.int (nI l)), y5, y6] [] (am_hh X S L) Q := by
  refine ax_s (pc' := 73) (st' := [.int (nI l)]) rfl rfl rfl rfl ?_
  refine ax_s (pc' := 74) (st' := [.int 1, .int (nI l)]) rfl rfl rfl rfl ?_
  refine ax_s (pc' := 75) (st' := [.int (nI t), .int 1, .int (nI l)]) rfl rfl rfl rfl ?_
  refine ax_s (pc' := 76) (st' := [.int (1 <<< ((nI t) &&& 31)), .int (nI l)]) rfl rfl rfl rfl ?_
  refine ax_cmp_ge rfl (fun c1 => ?_) (fun c1 => ?_)
  · refine ax_s (pc' := 152) (ls' := [some (.ref 285), some (.int (nI N)), some (.int (nI m)), some (.int ((nI t) + (-1))), some (.int (nI l)), y5, y6]) (st' := []) rfl rfl rfl rfl ?_
    refine ax_s (pc' := 64) (st' := []) rfl rfl rfl rfl ?_
    exact k1 c1
  · refine ax_s (pc' := 80) (st' := [.ref 285]) rfl rfl rfl rfl ?_
    refine ax_get rfl (hh_285 _ _ _) rfl rfl rfl ?_
    show am_ex (d + 8) 210 83 [some (.ref 285), some (.int (nI N)), some (.int (nI m)), some (.int (nI t)), some (.int (nI l)), y5, y6] [.ref 305] (am_hh X S L) _
    refine ax_s (pc' := 84) (st' := [.int 2, .ref 305]) rfl rfl rfl rfl ?_
    refine ax_s (pc' := 86) (st' := [.int (nI l), .int 2, .ref 305]) rfl rfl rfl rfl ?_
    refine ax_s (pc' := 87) (st' := [.int (2 * (nI l)), .ref 305]) rfl rfl rfl rfl ?_
    refine ax_ald (j := (2 * l)) (v := (S 305 (2 * l))) rfl (hh_305 _ _ _) rfl (am_nm (x := 2) (y := l) rfl rfl) (x1 c1) (by decide) rfl ?_
    refine ax_s (pc' := 90) (ls' := [some (.ref 285), some (.int (nI N)), some (.int (nI m)), some (.int (nI t)), some (.int (nI l)), some (.int (S 305 (2 * l))), y6]) (st' := []) rfl rfl rfl rfl ?_
    refine ax_s (pc' := 91) (st' := [.ref 285]) rfl rfl rfl rfl ?_
    refine ax_get rfl (hh_285 _ _ _) rfl rfl rfl ?_
    show am_ex (d + 8) 210 94 [some (.ref 285), some (.int (nI N)), some (.int (nI m)), some (.int (nI t)), some (.int (nI l)), some (.int (S 305 (2 * l))), y6] [.ref 305] (am_hh X S L) _
    refine ax_s (pc' := 95) (st' := [.int 2, .ref 305]) rfl rfl rfl rfl ?_
    refine ax_s (pc' := 97) (st' := [.int (nI l), .int 2, .ref 305]) rfl rfl rfl rfl ?_
    refine ax_s (pc' := 98) (st' := [.int (2 * (nI l)), .ref 305]) rfl rfl rfl rfl ?_
    refine ax_s (pc' := 99) (st' := [.int 1, .int (2 * (nI l)), .ref 305]) rfl rfl rfl rfl ?_
    refine ax_s (pc' := 100) (st' := [.int ((2 * (nI l)) + 1), .ref 305]) rfl rfl rfl rfl ?_
    refine ax_ald (j := ((2 * l) + 1)) (v := (S 305 ((2 * l) + 1))) rfl (hh_305 _ _ _) rfl (am_na (x := (2 * l)) (y := 1) (am_nm (x := 2) (y := l) rfl rfl) rfl) (x2 c1) (by decide) rfl ?_
    refine ax_s (pc' := 103) (ls' := [some (.ref 285), some (.int (nI N)), some (.int (nI m)), some (.int (nI t)), some (.int (nI l)), some (.int (S 305 (2 * l))), some (.int (S 305 ((2 * l) + 1)))]) (st' := []) rfl rfl rfl rfl ?_
    refine ax_s (pc' := 104) (st' := [.ref 285]) rfl rfl rfl rfl ?_
    refine ax_get rfl (hh_285 _ _ _) rfl rfl rfl ?_
    show am_ex (d + 8) 210 107 [some (.ref 285), some (.int (nI N)), some (.int (nI m)), some (.int (nI t)), some (.int (nI l)), some (.int (S 305 (2 * l))), some (.int (S 305 ((2 * l) + 1)))] [.ref 305] (am_hh X S L) _
    refine ax_s (pc' := 109) (st' := [.int (nI l), .ref 305]) rfl rfl rfl rfl ?_
    refine ax_s (pc' := 110) (st' := [.int (nI t), .int (nI l), .ref 305]) rfl rfl rfl rfl ?_
    refine ax_s (pc' := 111) (st' := [.int 2, .int (nI t), .int (nI l), .ref 305]) rfl rfl rfl rfl ?_
    refine ax_irem rfl (by decide) ?_
    refine ax_if_ne rfl (fun c2 => ?_) (fun c2 => ?_)
    · refine ax_s (pc' := 120) (st' := [.int 0, .int (nI l), .ref 305]) rfl rfl rfl rfl ?_
      refine ax_s (pc' := 122) (st' := [.int (S 305 (2 * l)), .int 0, .int (nI l), .ref 305]) rfl rfl rfl rfl ?_
      refine ax_s (pc' := 124) (st' := [.int (S 305 ((2 * l) + 1)), .int (S 305 (2 * l)), .int 0, .int (nI l), .ref 305]) rfl rfl rfl rfl ?_
      refine ax_cmp_le rfl (fun c3 => ?_) (fun c3 => ?_)
      · refine ax_s (pc' := 132) (st' := [.int 0, .int 0, .int (nI l), .ref 305]) rfl rfl rfl rfl ?_
        refine ax_cmp_ne rfl (fun c4 => False.elim (by revert c4; decide)) (fun c4 => ?_)
        refine ax_s (pc' := 137) (st' := [.int (S 305 (2 * l)), .int (nI l), .ref 305]) rfl rfl rfl rfl ?_
        refine ax_s (pc' := 142) (st' := [.int (S 305 (2 * l)), .int (nI l), .ref 305]) rfl rfl rfl rfl ?_
        refine ax_ast (j := l) rfl (hh_305 _ _ _) rfl rfl (x3 c1 c2 c3) (by decide) (am_hh_set _ _ _ 305 l _ rfl) ?_
        refine ax_s (pc' := 146) (ls' := [some (.ref 285), some (.int (nI N)), some (.int (nI m)), some (.int (nI t)), some (.int ((nI l) + 1)), some (.int (S 305 (2 * l))), some (.int (S 305 ((2 * l) + 1)))]) (st' := []) rfl rfl rfl rfl ?_
        rw [nI_1]
        refine ax_s (pc' := 71) (st' := []) rfl rfl rfl rfl ?_
        exact k2 c1 c2 c3
      · refine ax_s (pc' := 128) (st' := [.int 1, .int 0, .int (nI l), .ref 305]) rfl rfl rfl rfl ?_
        refine ax_s (pc' := 132) (st' := [.int 1, .int 0, .int (nI l), .ref 305]) rfl rfl rfl rfl ?_
        refine ax_cmp_ne rfl (fun c5 => ?_) (fun c5 => False.elim (by revert c5; decide))
        refine ax_s (pc' := 142) (st' := [.int (S 305 ((2 * l) + 1)), .int (nI l), .ref 305]) rfl rfl rfl rfl ?_
        refine ax_ast (j := l) rfl (hh_305 _ _ _) rfl rfl (x4 c1 c2 c3) (by decide) (am_hh_set _ _ _ 305 l _ rfl) ?_
        refine ax_s (pc' := 146) (ls' := [some (.ref 285), some (.int (nI N)), some (.int (nI m)), some (.int (nI t)), some (.int ((nI l) + 1)), some (.int (S 305 (2 * l))), some (.int (S 305 ((2 * l) + 1)))]) (st' := []) rfl rfl rfl rfl ?_
        rw [nI_1]
        refine ax_s (pc' := 71) (st' := []) rfl rfl rfl rfl ?_
        exact k3 c1 c2 c3
    · refine ax_s (pc' := 116) (st' := [.int 1, .int (nI l), .ref 305]) rfl rfl rfl rfl ?_
      refine ax_s (pc' := 120) (st' := [.int 1, .int (nI l), .ref 305]) rfl rfl rfl rfl ?_
      refine ax_s (pc' := 122) (st' := [.int (S 305 (2 * l)), .int 1, .int (nI l), .ref 305]) rfl rfl rfl rfl ?_
      refine ax_s (pc' := 124) (st' := [.int (S 305 ((2 * l) + 1)), .int (S 305 (2 * l)), .int 1, .int (nI l), .ref 305]) rfl rfl rfl rfl ?_
      refine ax_cmp_le rfl (fun c6 => ?_) (fun c6 => ?_)
      · refine ax_s (pc' := 132) (st' := [.int 0, .int 1, .int (nI l), .ref 305]) rfl rfl rfl rfl ?_
        refine ax_cmp_ne rfl (fun c7 => ?_) (fun c7 => False.elim (by revert c7; decide))
        refine ax_s (pc' := 142) (st' := [.int (S 305 ((2 * l) + 1)), .int (nI l), .ref 305]) rfl rfl rfl rfl ?_
        refine ax_ast (j := l) rfl (hh_305 _ _ _) rfl rfl (x5 c1 c2 c6) (by decide) (am_hh_set _ _ _ 305 l _ rfl) ?_
        refine ax_s (pc' := 146) (ls' := [some (.ref 285), some (.int (nI N)), some (.int (nI m)), some (.int (nI t)), some (.int ((nI l) + 1)), some (.int (S 305 (2 * l))), some (.int (S 305 ((2 * l) + 1)))]) (st' := []) rfl rfl rfl rfl ?_
        rw [nI_1]
        refine ax_s (pc' := 71) (st' := []) rfl rfl rfl rfl ?_
        exact k4 c1 c2 c6
      · refine ax_s (pc' := 128) (st' := [.int 1, .int 1, .int (nI l), .ref 305]) rfl rfl rfl rfl ?_
        refine ax_s (pc' := 132) (st' := [.int 1, .int 1, .int (nI l), .ref 305]) rfl rfl rfl rfl ?_
        refine ax_cmp_ne rfl (fun c8 => False.elim (by revert c8; decide)) (fun c8 => ?_)
        refine ax_s (pc' := 137) (st' := [.int (S 305 (2 * l)), .int (nI l), .ref 305]) rfl rfl rfl rfl ?_
        refine ax_s (pc' := 142) (st' := [.int (S 305 (2 * l)), .int (nI l), .ref 305]) rfl rfl rfl rfl ?_
        refine ax_ast (j := l) rfl (hh_305 _ _ _) rfl rfl (x6 c1 c2 c6) (by decide) (am_hh_set _ _ _ 305 l _ rfl) ?_
        refine ax_s (pc' := 146) (ls' := [some (.ref 285), some (.int (nI N)), some (.int (nI m)), some (.int (nI t)), some (.int ((nI l) + 1)), some (.int (S 305 (2 * l))), some (.int (S 305 ((2 * l) + 1)))]) (st' := []) rfl rfl rfl rfl ?_
        rw [nI_1]
        refine ax_s (pc' := 71) (st' := []) rfl rfl rfl rfl ?_
        exact k5 c1 c2 c6
def g_k_byTurns (S : Nat → Nat → Int32) (p q : Int32) : Prop := ¬ (S 20 4) ≤ 0 ∧ (¬ (p < 0 ∨ 4 < p)) ∧ (¬ (q < 1 ∨ 20 < q))
def eg_k_byTurns (S : Nat → Nat → Int32) (p q : Int32) : Int32 := (if (S 20 4) ≤ 0 then (-1000002) else (if p < 0 ∨ 4 < p then (-1000001) else (if q < 1 ∨ 20 < q then (-1000001) else 0)))
theorem wg_k_byTurns {d : Nat} {X : Nat × (Nat → Int32)} {S : Nat → Nat → Int32} {L : Nat → Int64} {p q : Int32} {Q : Option Value → am_H → Prop}  (hb : ¬ g_k_byTurns S p q) (hQ : Q (some (.int (eg_k_byTurns S p q))) (am_hh X S L)) : am_mt (d + 10) 107 [.ref 5, .int p, .int q] (am_hh X S L) Q := by
  refine ax_in (ls := [some (.ref 5), some (.int p), some (.int q)]) rfl ?_
  refine ax_s (pc' := 1) (st' := [.ref 5]) rfl rfl rfl rfl ?_
  refine ax_get rfl (hh_5 _ _ _) rfl rfl rfl ?_
  show am_ex (d + 10) 107 4 [some (.ref 5), some (.int p), some (.int q)] [.ref 20] (am_hh X S L) _
  refine ax_call (vs := [.ref 20]) (rr := []) rfl rfl rfl ?_
  refine kw (am_hh_sub isW20 X S L) (am_hh_sub isW20 X S L).symm (fun _ => ct_stands (am_isW_k isW20 X S L)) ?_
  show am_ex (d + 10) 107 7 [some (.ref 5), some (.int p), some (.int q)] [.int (bI (decide (¬ (S 20 4) ≤ 0)))] (am_hh X S L) _
  refine ax_qT rfl (fun c1 => ?_) (fun c1 => ?_)
  · refine ax_s (pc' := 14) (st' := [.int p]) rfl rfl rfl rfl ?_
    refine ax_s (pc' := 15) (st' := [.int 0, .int p]) rfl rfl rfl rfl ?_
    refine ax_s (pc' := 16) (st' := [.int 4, .int 0, .int p]) rfl rfl rfl rfl ?_
    refine ax_call (vs := [.int p, .int 0, .int 4]) (rr := []) rfl rfl rfl ?_
    refine ct_isOutside ?_
    show am_ex (d + 10) 107 19 [some (.ref 5), some (.int p), some (.int q)] [.int (bI (decide (p < 0 ∨ 4 < p)))] (am_hh X S L) _
    refine ax_pT rfl (fun c2 => ?_) (fun c2 => ?_)
    · refine ax_s (pc' := 34) (st' := [.int (-1000001)]) rfl rfl rfl rfl ?_
      refine ax_r rfl rfl rfl ?_
      unfold eg_k_byTurns at hQ
      rw [if_neg c1, if_pos c2] at hQ
      exact hQ
    · refine ax_s (pc' := 23) (st' := [.int q]) rfl rfl rfl rfl ?_
      refine ax_s (pc' := 24) (st' := [.int 1, .int q]) rfl rfl rfl rfl ?_
      refine ax_s (pc' := 26) (st' := [.int 20, .int 1, .int q]) rfl rfl rfl rfl ?_
      refine ax_call (vs := [.int q, .int 1, .int 20]) (rr := []) rfl rfl rfl ?_
      refine ct_isOutside ?_
      show am_ex (d + 10) 107 29 [some (.ref 5), some (.int p), some (.int q)] [.int (bI (decide (q < 1 ∨ 20 < q)))] (am_hh X S L) _
      refine ax_pF rfl (fun c3 => ?_) (fun c3 => ?_)
      · exact absurd ⟨c1, c2, c3⟩ hb
      · refine ax_s (pc' := 34) (st' := [.int (-1000001)]) rfl rfl rfl rfl ?_
        refine ax_r rfl rfl rfl ?_
        unfold eg_k_byTurns at hQ
        rw [if_neg c1, if_neg c2, if_pos c3] at hQ
        exact hQ
  · refine ax_s (pc' := 12) (st' := [.int (-1000002)]) rfl rfl rfl rfl ?_
    refine ax_r rfl rfl rfl ?_
    unfold eg_k_byTurns at hQ
    rw [if_pos c1] at hQ
    exact hQ
def g_m_byTurns (S : Nat → Nat → Int32) (p q : Int32) : Prop := ¬ ((S 285 8) = 0) ∧ (¬ p < 0 ∧ ¬ 4 < p) ∧ (¬ q < 1 ∧ ¬ 20 < q)
def eg_m_byTurns (S : Nat → Nat → Int32) (p q : Int32) : Int32 := (if (S 285 8) = 0 then (-1000002) else (if ¬ p < 0 ∧ ¬ 4 < p then (if ¬ q < 1 ∧ ¬ 20 < q then 0 else (-1000001)) else (-1000001)))
theorem wg_m_byTurns {d : Nat} {X : Nat × (Nat → Int32)} {S : Nat → Nat → Int32} {L : Nat → Int64} {p q : Int32} {Q : Option Value → am_H → Prop}  (hb : ¬ g_m_byTurns S p q) (hQ : Q (some (.int (eg_m_byTurns S p q))) (am_hh X S L)) : am_mt (d + 10) 210 [.ref 285, .int p, .int q] (am_hh X S L) Q := by
  refine ax_in (ls := [some (.ref 285), some (.int p), some (.int q), none, none, none, none]) rfl ?_
  refine ax_s (pc' := 1) (st' := [.ref 285]) rfl rfl rfl rfl ?_
  refine ax_call (vs := [.ref 285]) (rr := []) rfl rfl rfl ?_
  refine mt_isNone  ?_
  show am_ex (d + 10) 210 4 [some (.ref 285), some (.int p), some (.int q), none, none, none, none] [.int (bI (decide ((S 285 8) = 0)))] (am_hh X S L) _
  refine ax_pF rfl (fun c1 => ?_) (fun c1 => ?_)
  · refine ax_s (pc' := 11) (st' := [.int p]) rfl rfl rfl rfl ?_
    refine ax_s (pc' := 12) (st' := [.int 0, .int p]) rfl rfl rfl rfl ?_
    refine ax_s (pc' := 13) (st' := [.int 4, .int 0, .int p]) rfl rfl rfl rfl ?_
    refine ax_call (vs := [.int p, .int 0, .int 4]) (rr := []) rfl rfl rfl ?_
    refine mt_in ?_
    show am_ex (d + 10) 210 16 [some (.ref 285), some (.int p), some (.int q), none, none, none, none] [.int (bI (decide (¬ p < 0 ∧ ¬ 4 < p)))] (am_hh X S L) _
    refine ax_pF rfl (fun c2 => ?_) (fun c2 => ?_)
    · refine ax_s (pc' := 31) (st' := [.int (-1000001)]) rfl rfl rfl rfl ?_
      refine ax_r rfl rfl rfl ?_
      unfold eg_m_byTurns at hQ
      rw [if_neg c1, if_neg c2] at hQ
      exact hQ
    · refine ax_s (pc' := 20) (st' := [.int q]) rfl rfl rfl rfl ?_
      refine ax_s (pc' := 21) (st' := [.int 1, .int q]) rfl rfl rfl rfl ?_
      refine ax_s (pc' := 23) (st' := [.int 20, .int 1, .int q]) rfl rfl rfl rfl ?_
      refine ax_call (vs := [.int q, .int 1, .int 20]) (rr := []) rfl rfl rfl ?_
      refine mt_in ?_
      show am_ex (d + 10) 210 26 [some (.ref 285), some (.int p), some (.int q), none, none, none, none] [.int (bI (decide (¬ q < 1 ∧ ¬ 20 < q)))] (am_hh X S L) _
      refine ax_pT rfl (fun c3 => ?_) (fun c3 => ?_)
      · exact absurd ⟨c1, c2, c3⟩ hb
      · refine ax_s (pc' := 31) (st' := [.int (-1000001)]) rfl rfl rfl rfl ?_
        refine ax_r rfl rfl rfl ?_
        unfold eg_m_byTurns at hQ
        rw [if_neg c1, if_pos c2, if_neg c3] at hQ
        exact hQ
  · refine ax_s (pc' := 9) (st' := [.int (-1000002)]) rfl rfl rfl rfl ?_
    refine ax_r rfl rfl rfl ?_
    unfold eg_m_byTurns at hQ
    rw [if_pos c1] at hQ
    exact hQ
theorem wv_k_byTurns {d : Nat} {X : Nat × (Nat → Int32)} {S : Nat → Nat → Int32} {L : Nat → Int64} {g n : Nat} {N m : Nat} {Q : Option Value → am_H → Prop} (hR0 : mB (am_sub S 20) g n) (hG0 : wB (am_sub S 20)) (hN4 : N ≤ 4) (hm20 : m ≤ 20) (hc9 : w_cl (am_sub S 29)) (hc0 : w_cl (am_sub S 20))  (hg : g_k_byTurns S (nI N) (nI m)) (k1 : ∀ S1 : Nat → Nat → Int32, FR S S1 → Q (some (.int (bt_res (w_wv (am_sub S 20) g n N m) N (S 282)))) (am_hh X S1 L)) : am_mt (d + 10) 107 [.ref 5, .int (nI N), .int (nI m)] (am_hh X S L) Q := by
  refine ax_in (ls := [some (.ref 5), some (.int (nI N)), some (.int (nI m))]) rfl ?_
  refine ax_s (pc' := 1) (st' := [.ref 5]) rfl rfl rfl rfl ?_
  refine ax_get rfl (hh_5 _ _ _) rfl rfl rfl ?_
  show am_ex (d + 10) 107 4 [some (.ref 5), some (.int (nI N)), some (.int (nI m))] [.ref 20] (am_hh X S L) _
  refine ax_call (vs := [.ref 20]) (rr := []) rfl rfl rfl ?_
  refine kw (am_hh_sub isW20 X S L) (am_hh_sub isW20 X S L).symm (fun _ => ct_stands (am_isW_k isW20 X S L)) ?_
  show am_ex (d + 10) 107 7 [some (.ref 5), some (.int (nI N)), some (.int (nI m))] [.int (bI (decide (¬ (S 20 4) ≤ 0)))] (am_hh X S L) _
  refine ax_qT rfl (fun c1 => ?_) (fun c1 => ?_)
  · refine ax_s (pc' := 14) (st' := [.int (nI N)]) rfl rfl rfl rfl ?_
    refine ax_s (pc' := 15) (st' := [.int 0, .int (nI N)]) rfl rfl rfl rfl ?_
    refine ax_s (pc' := 16) (st' := [.int 4, .int 0, .int (nI N)]) rfl rfl rfl rfl ?_
    refine ax_call (vs := [.int (nI N), .int 0, .int 4]) (rr := []) rfl rfl rfl ?_
    refine ct_isOutside ?_
    show am_ex (d + 10) 107 19 [some (.ref 5), some (.int (nI N)), some (.int (nI m))] [.int (bI (decide ((nI N) < 0 ∨ 4 < (nI N))))] (am_hh X S L) _
    refine ax_pT rfl (fun c2 => ?_) (fun c2 => ?_)
    · refine ax_s (pc' := 34) (st' := [.int (-1000001)]) rfl rfl rfl rfl ?_
      refine ax_r rfl rfl rfl ?_
      first | exact absurd (hg.2.1) c2 | exact absurd c2 (hg.2.1) | exact absurd (hg.2.1) (ne_true_of_eq_false c2)
    · refine ax_s (pc' := 23) (st' := [.int (nI m)]) rfl rfl rfl rfl ?_
      refine ax_s (pc' := 24) (st' := [.int 1, .int (nI m)]) rfl rfl rfl rfl ?_
      refine ax_s (pc' := 26) (st' := [.int 20, .int 1, .int (nI m)]) rfl rfl rfl rfl ?_
      refine ax_call (vs := [.int (nI m), .int 1, .int 20]) (rr := []) rfl rfl rfl ?_
      refine ct_isOutside ?_
      show am_ex (d + 10) 107 29 [some (.ref 5), some (.int (nI N)), some (.int (nI m))] [.int (bI (decide ((nI m) < 1 ∨ 20 < (nI m))))] (am_hh X S L) _
      refine ax_pF rfl (fun c3 => ?_) (fun c3 => ?_)
      · refine ax_s (pc' := 36) (st' := [.ref 5]) rfl rfl rfl rfl ?_
        refine ax_get rfl (hh_5 _ _ _) rfl rfl rfl ?_
        show am_ex (d + 10) 107 39 [some (.ref 5), some (.int (nI N)), some (.int (nI m))] [.ref 281] (am_hh X S L) _
        refine ax_s (pc' := 40) (st' := [.int (nI N), .ref 281]) rfl rfl rfl rfl ?_
        refine ax_s (pc' := 41) (st' := [.int (nI m), .int (nI N), .ref 281]) rfl rfl rfl rfl ?_
        refine ax_call (vs := [.ref 281, .int (nI N), .int (nI m)]) (rr := []) rfl rfl rfl ?_
        refine kt_oc hR0 hG0 hN4 hm20 hc9 hc0 (fun S1 r1 => ?_)
        show am_ex (d + 10) 107 44 [some (.ref 5), some (.int (nI N)), some (.int (nI m))] [.int (bt_res (w_wv (am_sub S 20) g n N m) N (S 282))] (am_hh X S1 L) _
        refine ax_r rfl rfl rfl ?_
        exact k1 S1 r1
      · refine ax_s (pc' := 34) (st' := [.int (-1000001)]) rfl rfl rfl rfl ?_
        refine ax_r rfl rfl rfl ?_
        first | exact absurd (hg.2.2) c3 | exact absurd c3 (hg.2.2) | exact absurd (hg.2.2) (ne_true_of_eq_false c3)
  · refine ax_s (pc' := 12) (st' := [.int (-1000002)]) rfl rfl rfl rfl ?_
    refine ax_r rfl rfl rfl ?_
    first | exact absurd (hg.1) c1 | exact absurd c1 (hg.1) | exact absurd (hg.1) (ne_true_of_eq_false c1)
theorem wv_m_byTurns {d : Nat} {X : Nat × (Nat → Int32)} {S : Nat → Nat → Int32} {L : Nat → Int64} {N m : Nat} {Q : Option Value → am_H → Prop}  (hg : g_m_byTurns S (nI N) (nI m)) (k1 : am_ex (d + 8) 210 34 [some (.ref 285), some (.int (nI N)), some (.int (nI m)), some (.int 0), none, none, none] [] (am_hh X S L) Q) : am_mt (d + 8) 210 [.ref 285, .int (nI N), .int (nI m)] (am_hh X S L) Q := by
  refine ax_in (ls := [some (.ref 285), some (.int (nI N)), some (.int (nI m)), none, none, none, none]) rfl ?_
  refine ax_s (pc' := 1) (st' := [.ref 285]) rfl rfl rfl rfl ?_
  refine ax_call (vs := [.ref 285]) (rr := []) rfl rfl rfl ?_
  refine mt_isNone  ?_
  show am_ex (d + 8) 210 4 [some (.ref 285), some (.int (nI N)), some (.int (nI m)), none, none, none, none] [.int (bI (decide ((S 285 8) = 0)))] (am_hh X S L) _
  refine ax_pF rfl (fun c1 => ?_) (fun c1 => ?_)
  · refine ax_s (pc' := 11) (st' := [.int (nI N)]) rfl rfl rfl rfl ?_
    refine ax_s (pc' := 12) (st' := [.int 0, .int (nI N)]) rfl rfl rfl rfl ?_
    refine ax_s (pc' := 13) (st' := [.int 4, .int 0, .int (nI N)]) rfl rfl rfl rfl ?_
    refine ax_call (vs := [.int (nI N), .int 0, .int 4]) (rr := []) rfl rfl rfl ?_
    refine mt_in ?_
    show am_ex (d + 8) 210 16 [some (.ref 285), some (.int (nI N)), some (.int (nI m)), none, none, none, none] [.int (bI (decide (¬ (nI N) < 0 ∧ ¬ 4 < (nI N))))] (am_hh X S L) _
    refine ax_pF rfl (fun c2 => ?_) (fun c2 => ?_)
    · refine ax_s (pc' := 31) (st' := [.int (-1000001)]) rfl rfl rfl rfl ?_
      refine ax_r rfl rfl rfl ?_
      first | exact absurd (hg.2.1) c2 | exact absurd c2 (hg.2.1) | exact absurd (hg.2.1) (ne_true_of_eq_false c2)
    · refine ax_s (pc' := 20) (st' := [.int (nI m)]) rfl rfl rfl rfl ?_
      refine ax_s (pc' := 21) (st' := [.int 1, .int (nI m)]) rfl rfl rfl rfl ?_
      refine ax_s (pc' := 23) (st' := [.int 20, .int 1, .int (nI m)]) rfl rfl rfl rfl ?_
      refine ax_call (vs := [.int (nI m), .int 1, .int 20]) (rr := []) rfl rfl rfl ?_
      refine mt_in ?_
      show am_ex (d + 8) 210 26 [some (.ref 285), some (.int (nI N)), some (.int (nI m)), none, none, none, none] [.int (bI (decide (¬ (nI m) < 1 ∧ ¬ 20 < (nI m))))] (am_hh X S L) _
      refine ax_pT rfl (fun c3 => ?_) (fun c3 => ?_)
      · refine ax_s (pc' := 33) (st' := [.int 0]) rfl rfl rfl rfl ?_
        refine ax_s (pc' := 34) (ls' := [some (.ref 285), some (.int (nI N)), some (.int (nI m)), some (.int 0), none, none, none]) (st' := []) rfl rfl rfl rfl ?_
        exact k1
      · refine ax_s (pc' := 31) (st' := [.int (-1000001)]) rfl rfl rfl rfl ?_
        refine ax_r rfl rfl rfl ?_
        first | exact absurd (hg.2.2) c3 | exact absurd c3 (hg.2.2) | exact absurd (hg.2.2) (ne_true_of_eq_false c3)
  · refine ax_s (pc' := 9) (st' := [.int (-1000002)]) rfl rfl rfl rfl ?_
    refine ax_r rfl rfl rfl ?_
    first | exact absurd (hg.1) c1 | exact absurd c1 (hg.1) | exact absurd (hg.1) (ne_true_of_eq_false c1)
