theorem wl_riddenOf {d : Nat} {X : Nat × (Nat → Int32)} {S : Nat → Nat → Int32} {L : Nat → Int64} {s j : Nat} {a : Int32} {Q : Option Value → am_H → Prop} (hs : am_isT s)  (x1 : ¬ (S 285 7) ≤ (nI j) → (27 + j) < 39) (k1 : (S 285 7) ≤ (nI j) → Q (some (.int a)) (am_hh X S L)) (k2 : ¬ (S 285 7) ≤ (nI j) → am_ex d 202 4 [some (.ref 285), some (.ref s), some (.int (a + (S s (27 + j)))), some (.int (nI (j + 1)))] [] (am_hh X S L) Q) : am_ex d 202 4 [some (.ref 285), some (.ref s), some (.int a), some (.int (nI j))] [] (am_hh X S L) Q := by
  refine ax_s (pc' := 5) (st' := [.int (nI j)]) rfl rfl rfl rfl ?_
  refine ax_s (pc' := 6) (st' := [.ref 285, .int (nI j)]) rfl rfl rfl rfl ?_
  refine ax_get rfl (hh_285 _ _ _) rfl rfl rfl ?_
  show am_ex d 202 9 [some (.ref 285), some (.ref s), some (.int a), some (.int (nI j))] [.int (S 285 7), .int (nI j)] (am_hh X S L) _
  refine ax_cmp_ge rfl (fun c1 => ?_) (fun c1 => ?_)
  · refine ax_s (pc' := 28) (st' := [.int a]) rfl rfl rfl rfl ?_
    refine ax_r rfl rfl rfl ?_
    exact k1 c1
  · refine ax_s (pc' := 13) (st' := [.int a]) rfl rfl rfl rfl ?_
    refine ax_s (pc' := 14) (st' := [.ref s, .int a]) rfl rfl rfl rfl ?_
    refine ax_s (pc' := 16) (st' := [.int 27, .ref s, .int a]) rfl rfl rfl rfl ?_
    refine ax_s (pc' := 17) (st' := [.int (nI j), .int 27, .ref s, .int a]) rfl rfl rfl rfl ?_
    refine ax_s (pc' := 18) (st' := [.int (27 + (nI j)), .ref s, .int a]) rfl rfl rfl rfl ?_
    refine ax_ald (j := (27 + j)) (v := (S s (27 + j))) rfl (isT_eq hs _ _ _) (isT_in hs _ _ _) (am_na (x := 27) (y := j) rfl rfl) (x1 c1) (by decide) rfl ?_
    refine ax_s (pc' := 20) (st' := [.int (a + (S s (27 + j)))]) rfl rfl rfl rfl ?_
    refine ax_s (pc' := 21) (ls' := [some (.ref 285), some (.ref s), some (.int (a + (S s (27 + j)))), some (.int (nI j))]) (st' := []) rfl rfl rfl rfl ?_
    refine ax_s (pc' := 24) (ls' := [some (.ref 285), some (.ref s), some (.int (a + (S s (27 + j)))), some (.int ((nI j) + 1))]) (st' := []) rfl rfl rfl rfl ?_
    rw [nI_1]
    refine ax_s (pc' := 4) (st' := []) rfl rfl rfl rfl ?_
    exact k2 c1
theorem wp_riddenOf {d : Nat} {X : Nat × (Nat → Int32)} {S : Nat → Nat → Int32} {L : Nat → Int64} {s : Nat} {Q : Option Value → am_H → Prop} (hs : am_isT s)  (k1 : am_ex d 202 4 [some (.ref 285), some (.ref s), some (.int 0), some (.int 0)] [] (am_hh X S L) Q) : am_mt d 202 [.ref 285, .ref s] (am_hh X S L) Q := by
  refine ax_in (ls := [some (.ref 285), some (.ref s), none, none]) rfl ?_
  refine ax_s (pc' := 1) (st' := [.int 0]) rfl rfl rfl rfl ?_
  refine ax_s (pc' := 2) (ls' := [some (.ref 285), some (.ref s), some (.int 0), none]) (st' := []) rfl rfl rfl rfl ?_
  refine ax_s (pc' := 3) (st' := [.int 0]) rfl rfl rfl rfl ?_
  refine ax_s (pc' := 4) (ls' := [some (.ref 285), some (.ref s), some (.int 0), some (.int 0)]) (st' := []) rfl rfl rfl rfl ?_
  exact k1
theorem wl_bits {d : Nat} {X : Nat × (Nat → Int32)} {S : Nat → Nat → Int32} {L : Nat → Int64} {j : Nat} {p a : Int32} {Q : Option Value → am_H → Prop}  (k1 : 6 ≤ (nI j) → Q (some (.int a)) (am_hh X S L)) (k2 : ¬ 6 ≤ (nI j) → am_ex d 201 4 [some (.int p), some (.int (a + ((p >>> ((nI j) &&& 31)) &&& 1))), some (.int (nI (j + 1)))] [] (am_hh X S L) Q) : am_ex d 201 4 [some (.int p), some (.int a), some (.int (nI j))] [] (am_hh X S L) Q := by
  refine ax_s (pc' := 5) (st' := [.int (nI j)]) rfl rfl rfl rfl ?_
  refine ax_s (pc' := 7) (st' := [.int 6, .int (nI j)]) rfl rfl rfl rfl ?_
  refine ax_cmp_ge rfl (fun c1 => ?_) (fun c1 => ?_)
  · refine ax_s (pc' := 25) (st' := [.int a]) rfl rfl rfl rfl ?_
    refine ax_r rfl rfl rfl ?_
    exact k1 c1
  · refine ax_s (pc' := 11) (st' := [.int a]) rfl rfl rfl rfl ?_
    refine ax_s (pc' := 12) (st' := [.int p, .int a]) rfl rfl rfl rfl ?_
    refine ax_s (pc' := 13) (st' := [.int (nI j), .int p, .int a]) rfl rfl rfl rfl ?_
    refine ax_s (pc' := 14) (st' := [.int (p >>> ((nI j) &&& 31)), .int a]) rfl rfl rfl rfl ?_
    refine ax_s (pc' := 15) (st' := [.int 1, .int (p >>> ((nI j) &&& 31)), .int a]) rfl rfl rfl rfl ?_
    refine ax_s (pc' := 16) (st' := [.int ((p >>> ((nI j) &&& 31)) &&& 1), .int a]) rfl rfl rfl rfl ?_
    refine ax_s (pc' := 17) (st' := [.int (a + ((p >>> ((nI j) &&& 31)) &&& 1))]) rfl rfl rfl rfl ?_
    refine ax_s (pc' := 18) (ls' := [some (.int p), some (.int (a + ((p >>> ((nI j) &&& 31)) &&& 1))), some (.int (nI j))]) (st' := []) rfl rfl rfl rfl ?_
    refine ax_s (pc' := 21) (ls' := [some (.int p), some (.int (a + ((p >>> ((nI j) &&& 31)) &&& 1))), some (.int ((nI j) + 1))]) (st' := []) rfl rfl rfl rfl ?_
    rw [nI_1]
    refine ax_s (pc' := 4) (st' := []) rfl rfl rfl rfl ?_
    exact k2 c1
theorem wp_bits {d : Nat} {X : Nat × (Nat → Int32)} {S : Nat → Nat → Int32} {L : Nat → Int64} {p : Int32} {Q : Option Value → am_H → Prop}  (k1 : am_ex d 201 4 [some (.int p), some (.int 0), some (.int 0)] [] (am_hh X S L) Q) : am_mt d 201 [.int p] (am_hh X S L) Q := by
  refine ax_in (ls := [some (.int p), none, none]) rfl ?_
  refine ax_s (pc' := 1) (st' := [.int 0]) rfl rfl rfl rfl ?_
  refine ax_s (pc' := 2) (ls' := [some (.int p), some (.int 0), none]) (st' := []) rfl rfl rfl rfl ?_
  refine ax_s (pc' := 3) (st' := [.int 0]) rfl rfl rfl rfl ?_
  refine ax_s (pc' := 4) (ls' := [some (.int p), some (.int 0), some (.int 0)]) (st' := []) rfl rfl rfl rfl ?_
  exact k1
theorem wl_goes {d : Nat} {X : Nat × (Nat → Int32)} {S : Nat → Nat → Int32} {L : Nat → Int64} {g n j : Nat} {p a : Int32} {Q : Option Value → am_H → Prop} (hF : mF S g n)  (k1 : p ≤ (nI j) → Q (some (.int a)) (am_hh X S L)) (k2 : ¬ p ≤ (nI j) → am_ex (d + 4) 196 4 [some (.ref 285), some (.int p), some (.int (a + (bI (!m_sb S 298 g n)))), some (.int (nI (j + 1)))] [] (am_hh X (m_step S 298 g n) L) Q) : am_ex (d + 4) 196 4 [some (.ref 285), some (.int p), some (.int a), some (.int (nI j))] [] (am_hh X S L) Q := by
  refine ax_s (pc' := 5) (st' := [.int (nI j)]) rfl rfl rfl rfl ?_
  refine ax_s (pc' := 6) (st' := [.int p, .int (nI j)]) rfl rfl rfl rfl ?_
  refine ax_cmp_ge rfl (fun c1 => ?_) (fun c1 => ?_)
  · refine ax_s (pc' := 27) (st' := [.int a]) rfl rfl rfl rfl ?_
    refine ax_r rfl rfl rfl ?_
    exact k1 c1
  · refine ax_s (pc' := 10) (st' := [.int a]) rfl rfl rfl rfl ?_
    refine ax_s (pc' := 11) (st' := [.ref 285, .int a]) rfl rfl rfl rfl ?_
    refine ax_s (pc' := 12) (st' := [.ref 285, .ref 285, .int a]) rfl rfl rfl rfl ?_
    refine ax_get rfl (hh_285 _ _ _) rfl rfl rfl ?_
    show am_ex (d + 4) 196 15 [some (.ref 285), some (.int p), some (.int a), some (.int (nI j))] [.ref 298, .ref 285, .int a] (am_hh X S L) _
    refine ax_call (vs := [.ref 285, .ref 298]) (rr := [.int a]) rfl rfl rfl ?_
    refine mt_stepOn_298 hF.1.1 hF.1.2 hF.2.1.1 hF.2.1.2.1 hF.2.1.2.2 hF.2.2 ?_
    show am_ex (d + 4) 196 18 [some (.ref 285), some (.int p), some (.int a), some (.int (nI j))] [.int (bI (!m_sb S 298 g n)), .int a] (am_hh X (m_step S 298 g n) L) _
    refine ax_s (pc' := 19) (st' := [.int (a + (bI (!m_sb S 298 g n)))]) rfl rfl rfl rfl ?_
    refine ax_s (pc' := 20) (ls' := [some (.ref 285), some (.int p), some (.int (a + (bI (!m_sb S 298 g n)))), some (.int (nI j))]) (st' := []) rfl rfl rfl rfl ?_
    refine ax_s (pc' := 23) (ls' := [some (.ref 285), some (.int p), some (.int (a + (bI (!m_sb S 298 g n)))), some (.int ((nI j) + 1))]) (st' := []) rfl rfl rfl rfl ?_
    rw [nI_1]
    refine ax_s (pc' := 4) (st' := []) rfl rfl rfl rfl ?_
    exact k2 c1
theorem wp_goes {d : Nat} {X : Nat × (Nat → Int32)} {S : Nat → Nat → Int32} {L : Nat → Int64} {p : Int32} {Q : Option Value → am_H → Prop}  (k1 : am_ex (d + 4) 196 4 [some (.ref 285), some (.int p), some (.int 0), some (.int 0)] [] (am_hh X S L) Q) : am_mt (d + 4) 196 [.ref 285, .int p] (am_hh X S L) Q := by
  refine ax_in (ls := [some (.ref 285), some (.int p), none, none]) rfl ?_
  refine ax_s (pc' := 1) (st' := [.int 0]) rfl rfl rfl rfl ?_
  refine ax_s (pc' := 2) (ls' := [some (.ref 285), some (.int p), some (.int 0), none]) (st' := []) rfl rfl rfl rfl ?_
  refine ax_s (pc' := 3) (st' := [.int 0]) rfl rfl rfl rfl ?_
  refine ax_s (pc' := 4) (ls' := [some (.ref 285), some (.int p), some (.int 0), some (.int 0)]) (st' := []) rfl rfl rfl rfl ?_
  exact k1
theorem wl_byNumbers {d : Nat} {X : Nat × (Nat → Int32)} {S : Nat → Nat → Int32} {L : Nat → Int64} {j : Nat} {Q : Option Value → am_H → Prop}  (x1 : ¬ 6 ≤ (nI j) → j < 6) (k1 : 6 ≤ (nI j) → Q none (am_hh X S L)) (k2 : ¬ 6 ≤ (nI j) → am_ex d 147 2 [some (.ref 285), some (.int (nI (j + 1)))] [] (am_hh X (am_u S 297 j (nI j)) L) Q) : am_ex d 147 2 [some (.ref 285), some (.int (nI j))] [] (am_hh X S L) Q := by
  refine ax_s (pc' := 3) (st' := [.int (nI j)]) rfl rfl rfl rfl ?_
  refine ax_s (pc' := 5) (st' := [.int 6, .int (nI j)]) rfl rfl rfl rfl ?_
  refine ax_cmp_ge rfl (fun c1 => ?_) (fun c1 => ?_)
  · refine ax_r rfl rfl rfl ?_
    exact k1 c1
  · refine ax_s (pc' := 9) (st' := [.ref 285]) rfl rfl rfl rfl ?_
    refine ax_get rfl (hh_285 _ _ _) rfl rfl rfl ?_
    show am_ex d 147 12 [some (.ref 285), some (.int (nI j))] [.ref 297] (am_hh X S L) _
    refine ax_s (pc' := 13) (st' := [.int (nI j), .ref 297]) rfl rfl rfl rfl ?_
    refine ax_s (pc' := 14) (st' := [.int (nI j), .int (nI j), .ref 297]) rfl rfl rfl rfl ?_
    refine ax_ast (j := j) rfl (hh_297 _ _ _) rfl rfl (x1 c1) (by decide) (am_hh_set _ _ _ 297 j _ rfl) ?_
    refine ax_s (pc' := 18) (ls' := [some (.ref 285), some (.int ((nI j) + 1))]) (st' := []) rfl rfl rfl rfl ?_
    rw [nI_1]
    refine ax_s (pc' := 2) (st' := []) rfl rfl rfl rfl ?_
    exact k2 c1
theorem wp_byNumbers {d : Nat} {X : Nat × (Nat → Int32)} {S : Nat → Nat → Int32} {L : Nat → Int64} {Q : Option Value → am_H → Prop}  (k1 : am_ex d 147 2 [some (.ref 285), some (.int 0)] [] (am_hh X S L) Q) : am_mt d 147 [.ref 285] (am_hh X S L) Q := by
  refine ax_in (ls := [some (.ref 285), none]) rfl ?_
  refine ax_s (pc' := 1) (st' := [.int 0]) rfl rfl rfl rfl ?_
  refine ax_s (pc' := 2) (ls' := [some (.ref 285), some (.int 0)]) (st' := []) rfl rfl rfl rfl ?_
  exact k1
theorem mt_asItIs {d : Nat} {X : Nat × (Nat → Int32)} {S : Nat → Nat → Int32} {L : Nat → Int64} {Q : Option Value → am_H → Prop}  (k1 : Q none (am_hh X (am_uc S 298 (va_cpy (S 293) (S 298) 0 0 39)) L)) : am_mt (d + 1) 195 [.ref 285] (am_hh X S L) Q := by
  refine ax_in (ls := [some (.ref 285)]) rfl ?_
  refine ax_s (pc' := 1) (st' := [.ref 285]) rfl rfl rfl rfl ?_
  refine ax_get rfl (hh_285 _ _ _) rfl rfl rfl ?_
  show am_ex (d + 1) 195 4 [some (.ref 285)] [.ref 293] (am_hh X S L) _
  refine ax_s (pc' := 5) (st' := [.int 0, .ref 293]) rfl rfl rfl rfl ?_
  refine ax_s (pc' := 6) (st' := [.ref 285, .int 0, .ref 293]) rfl rfl rfl rfl ?_
  refine ax_get rfl (hh_285 _ _ _) rfl rfl rfl ?_
  show am_ex (d + 1) 195 9 [some (.ref 285)] [.ref 298, .int 0, .ref 293] (am_hh X S L) _
  refine ax_s (pc' := 10) (st' := [.int 0, .ref 298, .int 0, .ref 293]) rfl rfl rfl rfl ?_
  refine ax_s (pc' := 12) (st' := [.int 39, .int 0, .ref 298, .int 0, .ref 293]) rfl rfl rfl rfl ?_
  refine ax_call (vs := [.ref 293, .int 0, .ref 298, .int 0, .int 39]) (rr := []) rfl rfl rfl ?_
  refine mt_bring 293 298 39 39 0 0 39 (fun _ => rfl) (fun _ => rfl) (by decide) (by decide) (by decide) (by decide) (Or.inl (by decide)) rfl rfl rfl (by decide) (by decide) ?_
  show am_ex (d + 1) 195 15 [some (.ref 285)] [] (am_hh X (am_uc S 298 (va_cpy (S 293) (S 298) 0 0 39)) L) _
  refine ax_r rfl rfl rfl ?_
  exact k1
