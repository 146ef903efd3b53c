theorem law_sw {X : Nat × (Nat → Int32)} {S : Nat → Nat → Int32} {L : Nat → Int64} {i : Nat} {Q : Option Value → am_H → Prop} (hX : X.1 < 2 ^ 31) (hi : i + 5 < X.1) (J : JJ S) (k : ∀ S2 L2, JJ S2 → am_ex 40 239 1298 [some (.ref 0), some (.ref 5), some (.ref 285), some (.int (nI i))] [] (am_hh X S2 L2) Q) : am_ex 40 239 27 [some (.ref 0), some (.ref 5), some (.ref 285), some (.int (nI i))] [] (am_hh X S L) Q := by
  refine ax_s (pc' := 28) (st' := [.ref 0]) rfl rfl rfl rfl ?_
  refine ax_s (pc' := 29) (st' := [.int (nI i), .ref 0]) rfl rfl rfl rfl ?_
  refine ax_ald (j := i) (v := (X.2 i)) rfl (hh_s0 _ _ _) rfl rfl (show i < X.1 by omega) hX rfl ?_
  refine ax_s (pc' := 32) (st' := [.int 63, .int (X.2 i)]) rfl rfl rfl rfl ?_
  refine ax_s (pc' := 33) (st' := [.int ((X.2 i) &&& 63)]) rfl rfl rfl rfl ?_
  by_cases c1 : ((X.2 i) &&& 63) = 0
  · refine ax_s (pc' := 196) (ls' := [some (.ref 0), some (.ref 5), some (.ref 285), some (.int (nI i))]) (st' := []) (h1 := (am_hh X S L)) rfl (by rw [c1]; rfl) rfl rfl ?_
    exact law_0 hX hi J k
  by_cases c2 : ((X.2 i) &&& 63) = 1
  · refine ax_s (pc' := 239) (ls' := [some (.ref 0), some (.ref 5), some (.ref 285), some (.int (nI i))]) (st' := []) (h1 := (am_hh X S L)) rfl (by rw [c2]; rfl) rfl rfl ?_
    exact law_1 hX hi J k
  by_cases c3 : ((X.2 i) &&& 63) = 2
  · refine ax_s (pc' := 282) (ls' := [some (.ref 0), some (.ref 5), some (.ref 285), some (.int (nI i))]) (st' := []) (h1 := (am_hh X S L)) rfl (by rw [c3]; rfl) rfl rfl ?_
    exact law_2 hX hi J k
  by_cases c4 : ((X.2 i) &&& 63) = 3
  · refine ax_s (pc' := 345) (ls' := [some (.ref 0), some (.ref 5), some (.ref 285), some (.int (nI i))]) (st' := []) (h1 := (am_hh X S L)) rfl (by rw [c4]; rfl) rfl rfl ?_
    exact law_3 hX hi J k
  by_cases c5 : ((X.2 i) &&& 63) = 4
  · refine ax_s (pc' := 368) (ls' := [some (.ref 0), some (.ref 5), some (.ref 285), some (.int (nI i))]) (st' := []) (h1 := (am_hh X S L)) rfl (by rw [c5]; rfl) rfl rfl ?_
    exact law_4 hX hi J k
  by_cases c6 : ((X.2 i) &&& 63) = 5
  · refine ax_s (pc' := 391) (ls' := [some (.ref 0), some (.ref 5), some (.ref 285), some (.int (nI i))]) (st' := []) (h1 := (am_hh X S L)) rfl (by rw [c6]; rfl) rfl rfl ?_
    exact law_5 hX hi J k
  by_cases c7 : ((X.2 i) &&& 63) = 6
  · refine ax_s (pc' := 404) (ls' := [some (.ref 0), some (.ref 5), some (.ref 285), some (.int (nI i))]) (st' := []) (h1 := (am_hh X S L)) rfl (by rw [c7]; rfl) rfl rfl ?_
    exact law_6 hX hi J k
  by_cases c8 : ((X.2 i) &&& 63) = 7
  · refine ax_s (pc' := 417) (ls' := [some (.ref 0), some (.ref 5), some (.ref 285), some (.int (nI i))]) (st' := []) (h1 := (am_hh X S L)) rfl (by rw [c8]; rfl) rfl rfl ?_
    exact law_7 hX hi J k
  by_cases c9 : ((X.2 i) &&& 63) = 8
  · refine ax_s (pc' := 430) (ls' := [some (.ref 0), some (.ref 5), some (.ref 285), some (.int (nI i))]) (st' := []) (h1 := (am_hh X S L)) rfl (by rw [c9]; rfl) rfl rfl ?_
    exact law_8 hX hi J k
  by_cases c10 : ((X.2 i) &&& 63) = 9
  · refine ax_s (pc' := 453) (ls' := [some (.ref 0), some (.ref 5), some (.ref 285), some (.int (nI i))]) (st' := []) (h1 := (am_hh X S L)) rfl (by rw [c10]; rfl) rfl rfl ?_
    exact law_9 hX hi J k
  by_cases c11 : ((X.2 i) &&& 63) = 10
  · refine ax_s (pc' := 476) (ls' := [some (.ref 0), some (.ref 5), some (.ref 285), some (.int (nI i))]) (st' := []) (h1 := (am_hh X S L)) rfl (by rw [c11]; rfl) rfl rfl ?_
    exact law_10 hX hi J k
  by_cases c12 : ((X.2 i) &&& 63) = 11
  · refine ax_s (pc' := 509) (ls' := [some (.ref 0), some (.ref 5), some (.ref 285), some (.int (nI i))]) (st' := []) (h1 := (am_hh X S L)) rfl (by rw [c12]; rfl) rfl rfl ?_
    exact law_11 hX hi J k
  by_cases c13 : ((X.2 i) &&& 63) = 12
  · refine ax_s (pc' := 532) (ls' := [some (.ref 0), some (.ref 5), some (.ref 285), some (.int (nI i))]) (st' := []) (h1 := (am_hh X S L)) rfl (by rw [c13]; rfl) rfl rfl ?_
    exact law_12 hX hi J k
  by_cases c14 : ((X.2 i) &&& 63) = 13
  · refine ax_s (pc' := 555) (ls' := [some (.ref 0), some (.ref 5), some (.ref 285), some (.int (nI i))]) (st' := []) (h1 := (am_hh X S L)) rfl (by rw [c14]; rfl) rfl rfl ?_
    exact law_13 hX hi J k
  by_cases c15 : ((X.2 i) &&& 63) = 14
  · refine ax_s (pc' := 588) (ls' := [some (.ref 0), some (.ref 5), some (.ref 285), some (.int (nI i))]) (st' := []) (h1 := (am_hh X S L)) rfl (by rw [c15]; rfl) rfl rfl ?_
    exact law_14 hX hi J k
  by_cases c16 : ((X.2 i) &&& 63) = 15
  · refine ax_s (pc' := 621) (ls' := [some (.ref 0), some (.ref 5), some (.ref 285), some (.int (nI i))]) (st' := []) (h1 := (am_hh X S L)) rfl (by rw [c16]; rfl) rfl rfl ?_
    exact law_15 hX hi J k
  by_cases c17 : ((X.2 i) &&& 63) = 16
  · refine ax_s (pc' := 644) (ls' := [some (.ref 0), some (.ref 5), some (.ref 285), some (.int (nI i))]) (st' := []) (h1 := (am_hh X S L)) rfl (by rw [c17]; rfl) rfl rfl ?_
    exact law_16 hX hi J k
  by_cases c18 : ((X.2 i) &&& 63) = 17
  · refine ax_s (pc' := 687) (ls' := [some (.ref 0), some (.ref 5), some (.ref 285), some (.int (nI i))]) (st' := []) (h1 := (am_hh X S L)) rfl (by rw [c18]; rfl) rfl rfl ?_
    exact law_17 hX hi J k
  by_cases c19 : ((X.2 i) &&& 63) = 18
  · refine ax_s (pc' := 710) (ls' := [some (.ref 0), some (.ref 5), some (.ref 285), some (.int (nI i))]) (st' := []) (h1 := (am_hh X S L)) rfl (by rw [c19]; rfl) rfl rfl ?_
    exact law_18 hX hi J k
  by_cases c20 : ((X.2 i) &&& 63) = 19
  · refine ax_s (pc' := 743) (ls' := [some (.ref 0), some (.ref 5), some (.ref 285), some (.int (nI i))]) (st' := []) (h1 := (am_hh X S L)) rfl (by rw [c20]; rfl) rfl rfl ?_
    exact law_19 hX hi J k
  by_cases c21 : ((X.2 i) &&& 63) = 20
  · refine ax_s (pc' := 766) (ls' := [some (.ref 0), some (.ref 5), some (.ref 285), some (.int (nI i))]) (st' := []) (h1 := (am_hh X S L)) rfl (by rw [c21]; rfl) rfl rfl ?_
    exact law_20 hX hi J k
  by_cases c22 : ((X.2 i) &&& 63) = 21
  · refine ax_s (pc' := 799) (ls' := [some (.ref 0), some (.ref 5), some (.ref 285), some (.int (nI i))]) (st' := []) (h1 := (am_hh X S L)) rfl (by rw [c22]; rfl) rfl rfl ?_
    exact law_21 hX hi J k
  by_cases c23 : ((X.2 i) &&& 63) = 22
  · refine ax_s (pc' := 832) (ls' := [some (.ref 0), some (.ref 5), some (.ref 285), some (.int (nI i))]) (st' := []) (h1 := (am_hh X S L)) rfl (by rw [c23]; rfl) rfl rfl ?_
    exact law_22 hX hi J k
  by_cases c24 : ((X.2 i) &&& 63) = 23
  · refine ax_s (pc' := 855) (ls' := [some (.ref 0), some (.ref 5), some (.ref 285), some (.int (nI i))]) (st' := []) (h1 := (am_hh X S L)) rfl (by rw [c24]; rfl) rfl rfl ?_
    exact law_23 hX hi J k
  by_cases c25 : ((X.2 i) &&& 63) = 24
  · refine ax_s (pc' := 888) (ls' := [some (.ref 0), some (.ref 5), some (.ref 285), some (.int (nI i))]) (st' := []) (h1 := (am_hh X S L)) rfl (by rw [c25]; rfl) rfl rfl ?_
    exact law_24 hX hi J k
  by_cases c26 : ((X.2 i) &&& 63) = 25
  · refine ax_s (pc' := 921) (ls' := [some (.ref 0), some (.ref 5), some (.ref 285), some (.int (nI i))]) (st' := []) (h1 := (am_hh X S L)) rfl (by rw [c26]; rfl) rfl rfl ?_
    exact law_25 hX hi J k
  by_cases c27 : ((X.2 i) &&& 63) = 26
  · refine ax_s (pc' := 954) (ls' := [some (.ref 0), some (.ref 5), some (.ref 285), some (.int (nI i))]) (st' := []) (h1 := (am_hh X S L)) rfl (by rw [c27]; rfl) rfl rfl ?_
    exact law_26 hX hi J k
  by_cases c28 : ((X.2 i) &&& 63) = 27
  · refine ax_s (pc' := 1017) (ls' := [some (.ref 0), some (.ref 5), some (.ref 285), some (.int (nI i))]) (st' := []) (h1 := (am_hh X S L)) rfl (by rw [c28]; rfl) rfl rfl ?_
    exact law_27 hX hi J k
  by_cases c29 : ((X.2 i) &&& 63) = 28
  · refine ax_s (pc' := 1061) (ls' := [some (.ref 0), some (.ref 5), some (.ref 285), some (.int (nI i))]) (st' := []) (h1 := (am_hh X S L)) rfl (by rw [c29]; rfl) rfl rfl ?_
    exact law_28 hX hi J k
  by_cases c30 : ((X.2 i) &&& 63) = 29
  · refine ax_s (pc' := 1104) (ls' := [some (.ref 0), some (.ref 5), some (.ref 285), some (.int (nI i))]) (st' := []) (h1 := (am_hh X S L)) rfl (by rw [c30]; rfl) rfl rfl ?_
    exact law_29 hX hi J k
  by_cases c31 : ((X.2 i) &&& 63) = 30
  · refine ax_s (pc' := 1127) (ls' := [some (.ref 0), some (.ref 5), some (.ref 285), some (.int (nI i))]) (st' := []) (h1 := (am_hh X S L)) rfl (by rw [c31]; rfl) rfl rfl ?_
    exact law_30 hX hi J k
  by_cases c32 : ((X.2 i) &&& 63) = 31
  · refine ax_s (pc' := 1150) (ls' := [some (.ref 0), some (.ref 5), some (.ref 285), some (.int (nI i))]) (st' := []) (h1 := (am_hh X S L)) rfl (by rw [c32]; rfl) rfl rfl ?_
    exact law_31 hX hi J k
  by_cases c33 : ((X.2 i) &&& 63) = 32
  · refine ax_s (pc' := 1173) (ls' := [some (.ref 0), some (.ref 5), some (.ref 285), some (.int (nI i))]) (st' := []) (h1 := (am_hh X S L)) rfl (by rw [c33]; rfl) rfl rfl ?_
    exact law_32 hX hi J k
  by_cases c34 : ((X.2 i) &&& 63) = 33
  · refine ax_s (pc' := 1206) (ls' := [some (.ref 0), some (.ref 5), some (.ref 285), some (.int (nI i))]) (st' := []) (h1 := (am_hh X S L)) rfl (by rw [c34]; rfl) rfl rfl ?_
    exact law_33 hX hi J k
  by_cases c35 : ((X.2 i) &&& 63) = 34
  · refine ax_s (pc' := 1239) (ls' := [some (.ref 0), some (.ref 5), some (.ref 285), some (.int (nI i))]) (st' := []) (h1 := (am_hh X S L)) rfl (by rw [c35]; rfl) rfl rfl ?_
    exact law_34 hX hi J k
  by_cases c36 : ((X.2 i) &&& 63) = 35
  · refine ax_s (pc' := 1262) (ls' := [some (.ref 0), some (.ref 5), some (.ref 285), some (.int (nI i))]) (st' := []) (h1 := (am_hh X S L)) rfl (by rw [c36]; rfl) rfl rfl ?_
    exact law_35 hX hi J k
  by_cases c37 : ((X.2 i) &&& 63) = 36
  · refine ax_s (pc' := 1285) (ls' := [some (.ref 0), some (.ref 5), some (.ref 285), some (.int (nI i))]) (st' := []) (h1 := (am_hh X S L)) rfl (by rw [c37]; rfl) rfl rfl ?_
    exact law_36 hX hi J k
  refine ax_s (pc' := 1298) (ls' := [some (.ref 0), some (.ref 5), some (.ref 285), some (.int (nI i))]) (st' := []) (h1 := (am_hh X S L)) rfl (am_tsw [0, 1, 2, 3, 4, 5, 6, 7, 8, 9, 10, 11, 12, 13, 14, 15, 16, 17, 18, 19, 20, 21, 22, 23, 24, 25, 26, 27, 28, 29, 30, 31, 32, 33, 34, 35, 36] (by decide) (by decide) (by intro q hq; simp only [List.mem_cons, List.not_mem_nil, or_false] at hq; rcases hq with rfl | rfl | rfl | rfl | rfl | rfl | rfl | rfl | rfl | rfl | rfl | rfl | rfl | rfl | rfl | rfl | rfl | rfl | rfl | rfl | rfl | rfl | rfl | rfl | rfl | rfl | rfl | rfl | rfl | rfl | rfl | rfl | rfl | rfl | rfl | rfl | rfl <;> first | exact lv_neT c1 (by decide) | exact lv_neT c2 (by decide) | exact lv_neT c3 (by decide) | exact lv_neT c4 (by decide) | exact lv_neT c5 (by decide) | exact lv_neT c6 (by decide) | exact lv_neT c7 (by decide) | exact lv_neT c8 (by decide) | exact lv_neT c9 (by decide) | exact lv_neT c10 (by decide) | exact lv_neT c11 (by decide) | exact lv_neT c12 (by decide) | exact lv_neT c13 (by decide) | exact lv_neT c14 (by decide) | exact lv_neT c15 (by decide) | exact lv_neT c16 (by decide) | exact lv_neT c17 (by decide) | exact lv_neT c18 (by decide) | exact lv_neT c19 (by decide) | exact lv_neT c20 (by decide) | exact lv_neT c21 (by decide) | exact lv_neT c22 (by decide) | exact lv_neT c23 (by decide) | exact lv_neT c24 (by decide) | exact lv_neT c25 (by decide) | exact lv_neT c26 (by decide) | exact lv_neT c27 (by decide) | exact lv_neT c28 (by decide) | exact lv_neT c29 (by decide) | exact lv_neT c30 (by decide) | exact lv_neT c31 (by decide) | exact lv_neT c32 (by decide) | exact lv_neT c33 (by decide) | exact lv_neT c34 (by decide) | exact lv_neT c35 (by decide) | exact lv_neT c36 (by decide) | exact lv_neT c37 (by decide)) (by decide)) rfl rfl ?_
  exact k _ _ J
theorem law_hd {X : Nat × (Nat → Int32)} {S : Nat → Nat → Int32} {L : Nat → Int64} {i : Nat} {Q : Option Value → am_H → Prop} (k1 : ((nI X.1) - 6) < (nI i) → Q (some (.int 1)) (am_hh X S L)) (k2 : ¬ ((nI X.1) - 6) < (nI i) → am_ex 40 239 27 [some (.ref 0), some (.ref 5), some (.ref 285), some (.int (nI i))] [] (am_hh X S L) Q) : am_ex 40 239 18 [some (.ref 0), some (.ref 5), some (.ref 285), some (.int (nI i))] [] (am_hh X S L) Q := by
  refine ax_s (pc' := 19) (st' := [.int (nI i)]) rfl rfl rfl rfl ?_
  refine ax_s (pc' := 20) (st' := [.ref 0, .int (nI i)]) rfl rfl rfl rfl ?_
  refine ax_len rfl (hh_s0 _ _ _) rfl ?_
  refine ax_s (pc' := 23) (st' := [.int 6, .int (nI X.1), .int (nI i)]) rfl rfl rfl rfl ?_
  refine ax_s (pc' := 24) (st' := [.int ((nI X.1) - 6), .int (nI i)]) rfl rfl rfl rfl ?_
  refine ax_cmp_gt rfl (fun c1 => ?_) (fun c1 => ?_)
  · refine ax_s (pc' := 1305) (st' := [.int 1]) rfl rfl rfl rfl ?_
    refine ax_rb (b := true) rfl rfl ?_
    exact k1 c1
  · exact k2 c1
theorem law_nx {X : Nat × (Nat → Int32)} {S : Nat → Nat → Int32} {L : Nat → Int64} {i : Nat} {Q : Option Value → am_H → Prop} (k1 : am_ex 40 239 18 [some (.ref 0), some (.ref 5), some (.ref 285), some (.int ((nI i) + 6))] [] (am_hh X S L) Q) : am_ex 40 239 1298 [some (.ref 0), some (.ref 5), some (.ref 285), some (.int (nI i))] [] (am_hh X S L) Q := by
  refine ax_s (pc' := 1301) (ls' := [some (.ref 0), some (.ref 5), some (.ref 285), some (.int ((nI i) + 6))]) (st' := []) rfl rfl rfl rfl ?_
  refine ax_s (pc' := 18) (st' := []) rfl rfl rfl rfl ?_
  exact k1
