theorem wl_happen {d : Nat} {X : Nat × (Nat → Int32)} {S : Nat → Nat → Int32} {L : Nat → Int64} {g n : Nat} {z : Nat} {W1 : Nat → Nat → Int32} {Q : Option Value → am_H → Prop} (hp : ((lN z) - (lN z) / (W1 0 4).toInt64 * (W1 0 4).toInt64).toInt32 = nI (z % n)) (hg : ((lN z) - (lN z) / (W1 0 0).toInt64 * (W1 0 0).toInt64).toInt32 = nI (z % g))  (x1 : ¬ (W1 0 4) ≤ 0 → 0 < (W1 0 0) → ¬ (W1 0 4).toInt64 = 0) (x2 : ¬ (W1 0 4) ≤ 0 → 0 < (W1 0 0) → (z % n) < 6) (x3 : ¬ (W1 0 4) ≤ 0 → 0 < (W1 0 0) → ¬ ((W1 5 (z % n)) = 2 ∨ (W1 5 (z % n)) = 3) → (lg_cmp ((lN z) - (lN z) / 4 * 4) 0) = 0 → ¬ (W1 0 0).toInt64 = 0) (x4 : ¬ (W1 0 4) ≤ 0 → 0 < (W1 0 0) → ¬ ((W1 5 (z % n)) = 2 ∨ (W1 5 (z % n)) = 3) → (lg_cmp ((lN z) - (lN z) / 4 * 4) 0) = 0 → (z % g) < 12) (k1 : (W1 0 4) ≤ 0 → Q none (am_hh X (am_ovl S 29 W1) L)) (k2 : ¬ (W1 0 4) ≤ 0 → 0 < (W1 0 0) → ¬ ((W1 5 (z % n)) = 2 ∨ (W1 5 (z % n)) = 3) → ¬ (lg_cmp ((lN z) - (lN z) / 4 * 4) 0) = 0 → Q none (am_hh X (am_ovl S 29 W1) L)) (k3 : ¬ (W1 0 4) ≤ 0 → 0 < (W1 0 0) → ¬ ((W1 5 (z % n)) = 2 ∨ (W1 5 (z % n)) = 3) → (lg_cmp ((lN z) - (lN z) / 4 * 4) 0) = 0 → Q none (am_hh X (am_ovl S 29 (am_u W1 1 (z % g) ((lN z) - (lN z) / 10 * 10).toInt32)) L)) (k4 : ¬ (W1 0 4) ≤ 0 → 0 < (W1 0 0) → (W1 5 (z % n)) = 2 ∨ (W1 5 (z % n)) = 3 → Q none (am_hh X (am_ovl S 29 (w_ca W1 (z % n))) L)) (k5 : ¬ (W1 0 4) ≤ 0 → ¬ 0 < (W1 0 0) → Q none (am_hh X (am_ovl S 29 W1) L)) : am_ex (d + 1) 126 0 [some (.ref 281), some (.long (lN z)), none, none] [] (am_hh X (am_ovl S 29 W1) L) Q := by
  refine ax_s (pc' := 1) (st' := [.ref 281]) rfl rfl rfl rfl ?_
  refine ax_get rfl (hh_281 _ _ _) rfl rfl rfl ?_
  show am_ex (d + 1) 126 4 [some (.ref 281), some (.long (lN z)), none, none] [.ref 29] (am_hh X (am_ovl S 29 W1) L) _
  refine ax_get rfl (hh_29 _ _ _) rfl rfl rfl ?_
  show am_ex (d + 1) 126 7 [some (.ref 281), some (.long (lN z)), none, none] [.int (W1 0 4)] (am_hh X (am_ovl S 29 W1) L) _
  refine ax_if_le rfl (fun c1 => ?_) (fun c1 => ?_)
  · refine ax_r rfl rfl rfl ?_
    exact k1 c1
  · refine ax_s (pc' := 11) (st' := [.ref 281]) rfl rfl rfl rfl ?_
    refine ax_get rfl (hh_281 _ _ _) rfl rfl rfl ?_
    show am_ex (d + 1) 126 14 [some (.ref 281), some (.long (lN z)), none, none] [.ref 29] (am_hh X (am_ovl S 29 W1) L) _
    refine ax_get rfl (hh_29 _ _ _) rfl rfl rfl ?_
    show am_ex (d + 1) 126 17 [some (.ref 281), some (.long (lN z)), none, none] [.int (W1 0 0)] (am_hh X (am_ovl S 29 W1) L) _
    refine ax_if_gt rfl (fun c2 => ?_) (fun c2 => ?_)
    · refine ax_s (pc' := 22) (st' := [.long (lN z)]) rfl rfl rfl rfl ?_
      refine ax_s (pc' := 23) (st' := [.ref 281, .long (lN z)]) rfl rfl rfl rfl ?_
      refine ax_get rfl (hh_281 _ _ _) rfl rfl rfl ?_
      show am_ex (d + 1) 126 26 [some (.ref 281), some (.long (lN z)), none, none] [.ref 29, .long (lN z)] (am_hh X (am_ovl S 29 W1) L) _
      refine ax_get rfl (hh_29 _ _ _) rfl rfl rfl ?_
      show am_ex (d + 1) 126 29 [some (.ref 281), some (.long (lN z)), none, none] [.int (W1 0 4), .long (lN z)] (am_hh X (am_ovl S 29 W1) L) _
      refine ax_s (pc' := 30) (st' := [.long (W1 0 4).toInt64, .long (lN z)]) rfl rfl rfl rfl ?_
      refine ax_lrem rfl (x1 c1 c2) ?_
      refine ax_s (pc' := 32) (st' := [.int ((lN z) - (lN z) / (W1 0 4).toInt64 * (W1 0 4).toInt64).toInt32]) rfl rfl rfl rfl ?_
      refine ax_s (pc' := 33) (ls' := [some (.ref 281), some (.long (lN z)), none, some (.int ((lN z) - (lN z) / (W1 0 4).toInt64 * (W1 0 4).toInt64).toInt32)]) (st' := []) rfl rfl rfl rfl ?_
      refine ax_s (pc' := 34) (st' := [.ref 281]) rfl rfl rfl rfl ?_
      refine ax_get rfl (hh_281 _ _ _) rfl rfl rfl ?_
      show am_ex (d + 1) 126 37 [some (.ref 281), some (.long (lN z)), none, some (.int ((lN z) - (lN z) / (W1 0 4).toInt64 * (W1 0 4).toInt64).toInt32)] [.ref 29] (am_hh X (am_ovl S 29 W1) L) _
      refine ax_s (pc' := 38) (st' := [.int ((lN z) - (lN z) / (W1 0 4).toInt64 * (W1 0 4).toInt64).toInt32, .ref 29]) rfl rfl rfl rfl ?_
      refine ax_call (vs := [.ref 29, .int ((lN z) - (lN z) / (W1 0 4).toInt64 * (W1 0 4).toInt64).toInt32]) (rr := []) rfl rfl rfl ?_
      refine kw (am_hh_ov isW29 X S L W1).symm (am_hh_ov isW29 X S L W1).symm.symm (fun _ => ct_hasLeft (am_isW_k isW29 X S L) hp (x2 c1 c2)) ?_
      show am_ex (d + 1) 126 41 [some (.ref 281), some (.long (lN z)), none, some (.int ((lN z) - (lN z) / (W1 0 4).toInt64 * (W1 0 4).toInt64).toInt32)] [.int (bI (decide ((W1 5 (z % n)) = 2 ∨ (W1 5 (z % n)) = 3)))] (am_hh X (am_ovl S 29 W1) L) _
      refine ax_pF rfl (fun c3 => ?_) (fun c3 => ?_)
      · refine ax_s (pc' := 56) (st' := [.long (lN z)]) rfl rfl rfl rfl ?_
        refine ax_s (pc' := 59) (st' := [.long 4, .long (lN z)]) rfl rfl rfl rfl ?_
        refine ax_lrem rfl (by decide) ?_
        refine ax_s (pc' := 61) (st' := [.long 0, .long ((lN z) - (lN z) / 4 * 4)]) rfl rfl rfl rfl ?_
        refine ax_s (pc' := 62) (st' := [.int (lg_cmp ((lN z) - (lN z) / 4 * 4) 0)]) rfl rfl rfl rfl ?_
        refine ax_if_ne rfl (fun c4 => ?_) (fun c4 => ?_)
        · refine ax_r rfl rfl rfl ?_
          exact k2 c1 c2 c3 c4
        · refine ax_s (pc' := 66) (st' := [.ref 281]) rfl rfl rfl rfl ?_
          refine ax_get rfl (hh_281 _ _ _) rfl rfl rfl ?_
          show am_ex (d + 1) 126 69 [some (.ref 281), some (.long (lN z)), none, some (.int ((lN z) - (lN z) / (W1 0 4).toInt64 * (W1 0 4).toInt64).toInt32)] [.ref 29] (am_hh X (am_ovl S 29 W1) L) _
          refine ax_get rfl (hh_29 _ _ _) rfl rfl rfl ?_
          show am_ex (d + 1) 126 72 [some (.ref 281), some (.long (lN z)), none, some (.int ((lN z) - (lN z) / (W1 0 4).toInt64 * (W1 0 4).toInt64).toInt32)] [.ref 30] (am_hh X (am_ovl S 29 W1) L) _
          refine ax_s (pc' := 73) (st' := [.long (lN z), .ref 30]) rfl rfl rfl rfl ?_
          refine ax_s (pc' := 74) (st' := [.ref 281, .long (lN z), .ref 30]) rfl rfl rfl rfl ?_
          refine ax_get rfl (hh_281 _ _ _) rfl rfl rfl ?_
          show am_ex (d + 1) 126 77 [some (.ref 281), some (.long (lN z)), none, some (.int ((lN z) - (lN z) / (W1 0 4).toInt64 * (W1 0 4).toInt64).toInt32)] [.ref 29, .long (lN z), .ref 30] (am_hh X (am_ovl S 29 W1) L) _
          refine ax_get rfl (hh_29 _ _ _) rfl rfl rfl ?_
          show am_ex (d + 1) 126 80 [some (.ref 281), some (.long (lN z)), none, some (.int ((lN z) - (lN z) / (W1 0 4).toInt64 * (W1 0 4).toInt64).toInt32)] [.int (W1 0 0), .long (lN z), .ref 30] (am_hh X (am_ovl S 29 W1) L) _
          refine ax_s (pc' := 81) (st' := [.long (W1 0 0).toInt64, .long (lN z), .ref 30]) rfl rfl rfl rfl ?_
          refine ax_lrem rfl (x3 c1 c2 c3 c4) ?_
          refine ax_s (pc' := 83) (st' := [.int ((lN z) - (lN z) / (W1 0 0).toInt64 * (W1 0 0).toInt64).toInt32, .ref 30]) rfl rfl rfl rfl ?_
          refine ax_s (pc' := 84) (st' := [.long (lN z), .int ((lN z) - (lN z) / (W1 0 0).toInt64 * (W1 0 0).toInt64).toInt32, .ref 30]) rfl rfl rfl rfl ?_
          refine ax_s (pc' := 87) (st' := [.long 10, .long (lN z), .int ((lN z) - (lN z) / (W1 0 0).toInt64 * (W1 0 0).toInt64).toInt32, .ref 30]) rfl rfl rfl rfl ?_
          refine ax_lrem rfl (by decide) ?_
          refine ax_s (pc' := 89) (st' := [.int ((lN z) - (lN z) / 10 * 10).toInt32, .int ((lN z) - (lN z) / (W1 0 0).toInt64 * (W1 0 0).toInt64).toInt32, .ref 30]) rfl rfl rfl rfl ?_
          refine ax_ast (j := (z % g)) rfl (hh_30 _ _ _) rfl hg (x4 c1 c2 c3 c4) (by decide) (am_hh_setW _ _ _ _ 1 (z % g) _ (by decide) rfl) ?_
          refine ax_r rfl rfl rfl ?_
          exact k3 c1 c2 c3 c4
      · refine ax_s (pc' := 45) (st' := [.ref 281]) rfl rfl rfl rfl ?_
        refine ax_get rfl (hh_281 _ _ _) rfl rfl rfl ?_
        show am_ex (d + 1) 126 48 [some (.ref 281), some (.long (lN z)), none, some (.int ((lN z) - (lN z) / (W1 0 4).toInt64 * (W1 0 4).toInt64).toInt32)] [.ref 29] (am_hh X (am_ovl S 29 W1) L) _
        refine ax_s (pc' := 49) (st' := [.int ((lN z) - (lN z) / (W1 0 4).toInt64 * (W1 0 4).toInt64).toInt32, .ref 29]) rfl rfl rfl rfl ?_
        refine ax_call (vs := [.ref 29, .int ((lN z) - (lN z) / (W1 0 4).toInt64 * (W1 0 4).toInt64).toInt32]) (rr := []) rfl rfl rfl ?_
        refine kw (am_hh_ov isW29 X S L W1).symm (am_hh_ov isW29 X S L _) (fun _ => ct_comeAgain (am_isW_k isW29 X S L) hp (x2 c1 c2)) ?_
        show am_ex (d + 1) 126 52 [some (.ref 281), some (.long (lN z)), none, some (.int ((lN z) - (lN z) / (W1 0 4).toInt64 * (W1 0 4).toInt64).toInt32)] [] (am_hh X (am_ovl S 29 (w_ca W1 (z % n))) L) _
        refine ax_s (pc' := 90) (st' := []) rfl rfl rfl rfl ?_
        refine ax_r rfl rfl rfl ?_
        exact k4 c1 c2 c3
    · refine ax_r rfl rfl rfl ?_
      exact k5 c1 c2
theorem kt_happen {d : Nat} {X : Nat × (Nat → Int32)} {S W1 : Nat → Nat → Int32} {L : Nat → Int64} {g n z : Nat} {Q : Option Value → am_H → Prop} (hf : wF W1 g n) (hn1 : 1 ≤ n) (hg1 : 1 ≤ g) (hz : z < 2 ^ 31) (hQ : Q none (am_hh X (am_ovl S 29 (w_hp W1 g n z)) L)) : am_mt (d + 1) 126 [.ref 281, .long (lN z)] (am_hh X (am_ovl S 29 W1) L) Q := by
  obtain ⟨h4, hn6, h0, hg12⟩ := hf
  have m1 := Nat.mod_lt z (show 0 < n by omega)
  have m2 := Nat.mod_lt z (show 0 < g by omega)
  have c0 : ¬ W1 0 4 ≤ 0 := by rw [h4]; exact nI_nle (by omega) (by omega)
  have c1 : 0 < W1 0 0 := by rw [h0]; exact nI_lt (a := 0) (by omega) (by omega)
  refine ax_in (ls := [some (.ref 281), some (.long (lN z)), none, none]) rfl ?_
  refine wl_happen (dr_r h4 hz hn1 (by omega)) (dr_r h0 hz hg1 (by omega)) (fun _ _ => dr_0 h4 hn1 (by omega)) (fun _ _ => by omega) (fun _ _ _ _ => dr_0 h0 hg1 (by omega)) (fun _ _ _ _ => by omega) (fun c => absurd c c0) (fun _ _ c2 c3 => ?_) (fun _ _ c2 c3 => ?_) (fun _ _ c2 => ?_) (fun _ c => absurd c1 c)
  · unfold w_hp at hQ
    rw [if_neg c2, if_neg c3] at hQ
    exact hQ
  · unfold w_hp at hQ
    rw [if_neg c2, if_pos c3] at hQ
    exact hQ
  · unfold w_hp at hQ
    rw [if_pos c2] at hQ
    exact hQ
theorem wl_days {d : Nat} {X : Nat × (Nat → Int32)} {S : Nat → Nat → Int32} {L : Nat → Int64} {g n : Nat} {z t j : Nat} {q a : Int32} {W1 : Nat → Nat → Int32} {Q : Option Value → am_H → Prop} (hf : wF W1 g n) (hn1 : 1 ≤ n) (hg1 : 1 ≤ g) (hz : z < 2 ^ 31)  (k1 : (nI t) ≤ (nI j) → Q (some (.int a)) (am_hh X (am_ovl S 29 W1) L)) (k2 : ¬ (nI t) ≤ (nI j) → (w_mb (w_hp W1 g n (z * 16807 % 2147483647)) rk0 g n) = true → am_ex (d + 6) 125 20 [some (.ref 281), some (.int (nI t)), some (.int q), some (.long (lN (z * 16807 % 2147483647))), none, some (.int a), some (.int (nI (j + 1)))] [] (am_hh X (am_ovl S 29 (w_ms (w_hp W1 g n (z * 16807 % 2147483647)) rk0 g n)) L) Q) (k3 : ¬ (nI t) ≤ (nI j) → (w_mb (w_hp W1 g n (z * 16807 % 2147483647)) rk0 g n) = false → am_ex (d + 6) 125 20 [some (.ref 281), some (.int (nI t)), some (.int q), some (.long (lN (z * 16807 % 2147483647))), none, some (.int (a + 1)), some (.int (nI (j + 1)))] [] (am_hh X (am_ovl S 29 (w_ms (w_hp W1 g n (z * 16807 % 2147483647)) rk0 g n)) L) Q) : am_ex (d + 6) 125 20 [some (.ref 281), some (.int (nI t)), some (.int q), some (.long (lN z)), none, some (.int a), some (.int (nI j))] [] (am_hh X (am_ovl S 29 W1) L) Q := by
  refine ax_s (pc' := 22) (st' := [.int (nI j)]) rfl rfl rfl rfl ?_
  refine ax_s (pc' := 23) (st' := [.int (nI t), .int (nI j)]) rfl rfl rfl rfl ?_
  refine ax_cmp_ge rfl (fun c1 => ?_) (fun c1 => ?_)
  · refine ax_s (pc' := 65) (st' := [.int a]) rfl rfl rfl rfl ?_
    refine ax_r rfl rfl rfl ?_
    exact k1 c1
  · refine ax_s (pc' := 27) (st' := [.long (lN z)]) rfl rfl rfl rfl ?_
    refine ax_s (pc' := 30) (st' := [.long 16807, .long (lN z)]) rfl rfl rfl rfl ?_
    refine ax_s (pc' := 31) (st' := [.long ((lN z) * 16807)]) rfl rfl rfl rfl ?_
    refine ax_s (pc' := 34) (st' := [.long 2147483647, .long ((lN z) * 16807)]) rfl rfl rfl rfl ?_
    refine ax_lrem rfl (by decide) ?_
    refine ax_s (pc' := 36) (ls' := [some (.ref 281), some (.int (nI t)), some (.int q), some (.long (((lN z) * 16807) - ((lN z) * 16807) / 2147483647 * 2147483647)), none, some (.int a), some (.int (nI j))]) (st' := []) rfl rfl rfl rfl ?_
    rw [show (((lN z) * 16807) - ((lN z) * 16807) / 2147483647 * 2147483647) = lN (z * 16807 % 2147483647) from dr_z hz]
    refine ax_s (pc' := 37) (st' := [.ref 281]) rfl rfl rfl rfl ?_
    refine ax_s (pc' := 38) (st' := [.long (lN (z * 16807 % 2147483647)), .ref 281]) rfl rfl rfl rfl ?_
    refine ax_call (vs := [.ref 281, .long (lN (z * 16807 % 2147483647))]) (rr := []) rfl rfl rfl ?_
    refine kt_happen (z := (z * 16807 % 2147483647)) hf hn1 hg1 (dr_b z) ?_
    show am_ex (d + 6) 125 41 [some (.ref 281), some (.int (nI t)), some (.int q), some (.long (lN (z * 16807 % 2147483647))), none, some (.int a), some (.int (nI j))] [] (am_hh X (am_ovl S 29 (w_hp W1 g n (z * 16807 % 2147483647))) L) _
    refine ax_s (pc' := 42) (st' := [.ref 281]) rfl rfl rfl rfl ?_
    refine ax_get rfl (hh_281 _ _ _) rfl rfl rfl ?_
    show am_ex (d + 6) 125 45 [some (.ref 281), some (.int (nI t)), some (.int q), some (.long (lN (z * 16807 % 2147483647))), none, some (.int a), some (.int (nI j))] [.ref 29] (am_hh X (am_ovl S 29 (w_hp W1 g n (z * 16807 % 2147483647))) L) _
    refine ax_s (pc' := 48) (st' := [.ref 1, .ref 29]) rfl rfl rfl rfl ?_
    refine ax_call (vs := [.ref 29, .ref 1]) (rr := []) rfl rfl rfl ?_
    refine kw (am_hh_ov isW29 X S L (w_hp W1 g n (z * 16807 % 2147483647))).symm (am_hh_ov isW29 X S L _) (fun _ => ct_makeStep (rk := rk0) (am_isW_k isW29 X S L) (show wF (w_hp W1 g n (z * 16807 % 2147483647)) g n from (wF_hp hf)).1 (show wF (w_hp W1 g n (z * 16807 % 2147483647)) g n from (wF_hp hf)).2.1 (show wF (w_hp W1 g n (z * 16807 % 2147483647)) g n from (wF_hp hf)).2.2.1 (show wF (w_hp W1 g n (z * 16807 % 2147483647)) g n from (wF_hp hf)).2.2.2 (hh_s1 _ _ _) (by decide) (show 1 < 301 + 5 by decide)) ?_
    show am_ex (d + 6) 125 51 [some (.ref 281), some (.int (nI t)), some (.int q), some (.long (lN (z * 16807 % 2147483647))), none, some (.int a), some (.int (nI j))] [.int (bI (w_mb (w_hp W1 g n (z * 16807 % 2147483647)) rk0 g n))] (am_hh X (am_ovl S 29 (w_ms (w_hp W1 g n (z * 16807 % 2147483647)) rk0 g n)) L) _
    refine ax_bT rfl (fun c2 => ?_) (fun c2 => ?_)
    · refine ax_s (pc' := 60) (ls' := [some (.ref 281), some (.int (nI t)), some (.int q), some (.long (lN (z * 16807 % 2147483647))), none, some (.int a), some (.int ((nI j) + 1))]) (st' := []) rfl rfl rfl rfl ?_
      rw [nI_1]
      refine ax_s (pc' := 20) (st' := []) rfl rfl rfl rfl ?_
      exact k2 c1 c2
    · refine ax_s (pc' := 57) (ls' := [some (.ref 281), some (.int (nI t)), some (.int q), some (.long (lN (z * 16807 % 2147483647))), none, some (.int (a + 1)), some (.int (nI j))]) (st' := []) rfl rfl rfl rfl ?_
      refine ax_s (pc' := 60) (ls' := [some (.ref 281), some (.int (nI t)), some (.int q), some (.long (lN (z * 16807 % 2147483647))), none, some (.int (a + 1)), some (.int ((nI j) + 1))]) (st' := []) rfl rfl rfl rfl ?_
      rw [nI_1]
      refine ax_s (pc' := 20) (st' := []) rfl rfl rfl rfl ?_
      exact k3 c1 c2
theorem wp_days {d : Nat} {X : Nat × (Nat → Int32)} {S : Nat → Nat → Int32} {L : Nat → Int64} {g n : Nat} {t : Nat} {q : Int32} {Q : Option Value → am_H → Prop} (hf : wF (am_sub S 20) g n) (hc9 : w_cl (am_sub S 29)) (hc0 : w_cl (am_sub S 20))  (k1 : am_ex (d + 6) 125 20 [some (.ref 281), some (.int (nI t)), some (.int q), some (.long q.toInt64), none, some (.int 0), some (.int 0)] [] (am_hh X (am_ovl S 29 (am_sub S 20)) L) Q) : am_mt (d + 6) 125 [.ref 281, .int (nI t), .int q] (am_hh X S L) Q := by
  refine ax_in (ls := [some (.ref 281), some (.int (nI t)), some (.int q), none, none, none, none]) rfl ?_
  refine ax_s (pc' := 1) (st' := [.ref 281]) rfl rfl rfl rfl ?_
  refine ax_get rfl (hh_281 _ _ _) rfl rfl rfl ?_
  show am_ex (d + 6) 125 4 [some (.ref 281), some (.int (nI t)), some (.int q), none, none, none, none] [.ref 29] (am_hh X S L) _
  refine ax_s (pc' := 5) (st' := [.ref 281, .ref 29]) rfl rfl rfl rfl ?_
  refine ax_get rfl (hh_281 _ _ _) rfl rfl rfl ?_
  show am_ex (d + 6) 125 8 [some (.ref 281), some (.int (nI t)), some (.int q), none, none, none, none] [.ref 20, .ref 29] (am_hh X S L) _
  refine ax_call (vs := [.ref 29, .ref 20]) (rr := []) rfl rfl rfl ?_
  refine kt_takeFrom isW29 isW20 (by omega) hc9 hc0 ?_
  show am_ex (d + 6) 125 11 [some (.ref 281), some (.int (nI t)), some (.int q), none, none, none, none] [] (am_hh X (am_ovl S 29 (am_sub S 20)) L) _
  refine ax_s (pc' := 12) (st' := [.int q]) rfl rfl rfl rfl ?_
  refine ax_s (pc' := 13) (st' := [.long q.toInt64]) rfl rfl rfl rfl ?_
  refine ax_s (pc' := 14) (ls' := [some (.ref 281), some (.int (nI t)), some (.int q), some (.long q.toInt64), none, none, none]) (st' := []) rfl rfl rfl rfl ?_
  refine ax_s (pc' := 15) (st' := [.int 0]) rfl rfl rfl rfl ?_
  refine ax_s (pc' := 17) (ls' := [some (.ref 281), some (.int (nI t)), some (.int q), some (.long q.toInt64), none, some (.int 0), none]) (st' := []) rfl rfl rfl rfl ?_
  refine ax_s (pc' := 18) (st' := [.int 0]) rfl rfl rfl rfl ?_
  refine ax_s (pc' := 20) (ls' := [some (.ref 281), some (.int (nI t)), some (.int q), some (.long q.toInt64), none, some (.int 0), some (.int 0)]) (st' := []) rfl rfl rfl rfl ?_
  exact k1
