section WHO2
variable {d : Nat} {X : Nat × (Nat → Int32)} {S : Nat → Nat → Int32} {L : Nat → Int64} {g n r f N j : Nat} {Q : Option Value → am_H → Prop} {W : Nat → Nat → Int32} {t : Nat → Int32}
theorem kt_guess0 (hr : r < 8) (hfN : f + N ≤ 40) (ht : ∀ i, i < N → S (8 + 1 * r) (f + i) = t i) (hf : wF (am_sub S 20) g n) (hc9 : w_cl (am_sub S 29)) (hc0 : w_cl (am_sub S 20)) (hj : j < 6) (hQ : ∀ W', w_cl W' → Q (some (.int (gb (fun v => w_ls g n t N 0 (am_u (am_sub S 20) 2 j (nI v))) 5 1 0))) (am_hh X (am_ovl S 29 W') L)) : am_mt (d + 8) 115 [.ref 280, .int (nI j), .int 0, .ref (8 + 1 * r), .int (nI f), .int (nI N)] (am_hh X S L) Q := by
  have key : ∀ (k v : Nat) (x y z : Int32) (W1 : Nat → Nat → Int32), v + k = 6 → w_cl W1 → (∀ W', w_cl W' → Q (some (.int (gb (fun v => w_ls g n t N 0 (am_u (am_sub S 20) 2 j (nI v))) k v x))) (am_hh X (am_ovl S 29 W') L)) → am_ex (d + 8) 115 13 [some (.ref 280), some (.int (nI j)), some (.int 0), some (.ref (8 + 1 * r)), some (.int (nI f)), some (.int (nI N)), some (.int x), some (.int y), some (.int z), some (.int (nI v))] [] (am_hh X (am_ovl S 29 W1) L) Q := by
    intro k
    induction k with
    | zero =>
      intro v x y z W1 hv hc hQ
      have e : v = 6 := by omega
      subst e
      refine wl_guess0 hr hfN ht hf hc hc0 hj (fun _ => hj) (fun _ => hQ W1 hc) (fun c => absurd (by decide) c) (fun c => absurd (by decide) c) (fun c => absurd (by decide) c)
    | succ k ih =>
      intro v x y z W1 hv hc hQ
      have hQ' : ∀ W', w_cl W' → Q (some (.int (gb (fun v => w_ls g n t N 0 (am_u (am_sub S 20) 2 j (nI v))) k (v + 1) (if (fun v => w_ls g n t N 0 (am_u (am_sub S 20) 2 j (nI v))) v = true then x ||| (1 <<< (nI v &&& 31)) else x)))) (am_hh X (am_ovl S 29 W') L) := hQ
      refine wl_guess0 hr hfN ht hf hc hc0 hj (fun _ => hj) (fun c => absurd c (nI_nlt (a := 5) (by omega) (by omega))) (fun _ W3 h3 c => ?_) (fun _ W3 h3 c c2 => ?_) (fun _ W3 h3 c c2 => ?_)
      · rw [if_neg (ne_true_of_eq_false c)] at hQ'
        exact ih (v + 1) _ _ _ W3 (by omega) h3 hQ'
      · rw [if_pos c] at hQ'
        exact ih (v + 1) _ _ _ W3 (by omega) h3 hQ'
      · rw [if_pos c] at hQ'
        exact ih (v + 1) _ _ _ W3 (by omega) h3 hQ'
  refine wp_guess ?_
  have := key 5 1 0 0 (-1000000) (am_sub S 29) (by omega) hc9 hQ
  rw [am_ovl_sub] at this
  exact this
theorem kt_guess1 (hr : r < 8) (hfN : f + N ≤ 40) (ht : ∀ i, i < N → S (8 + 1 * r) (f + i) = t i) (hf : wF (am_sub S 20) g n) (hc9 : w_cl (am_sub S 29)) (hc0 : w_cl (am_sub S 20)) (hj : j < 6) (hQ : ∀ W', w_cl W' → Q (some (.int (gb (fun v => w_ls g n t N 0 (am_u (am_sub S 20) 3 j (nI v))) 9 1 0))) (am_hh X (am_ovl S 29 W') L)) : am_mt (d + 8) 115 [.ref 280, .int (nI j), .int 1, .ref (8 + 1 * r), .int (nI f), .int (nI N)] (am_hh X S L) Q := by
  have key : ∀ (k v : Nat) (x y z : Int32) (W1 : Nat → Nat → Int32), v + k = 10 → w_cl W1 → (∀ W', w_cl W' → Q (some (.int (gb (fun v => w_ls g n t N 0 (am_u (am_sub S 20) 3 j (nI v))) k v x))) (am_hh X (am_ovl S 29 W') L)) → am_ex (d + 8) 115 13 [some (.ref 280), some (.int (nI j)), some (.int 1), some (.ref (8 + 1 * r)), some (.int (nI f)), some (.int (nI N)), some (.int x), some (.int y), some (.int z), some (.int (nI v))] [] (am_hh X (am_ovl S 29 W1) L) Q := by
    intro k
    induction k with
    | zero =>
      intro v x y z W1 hv hc hQ
      have e : v = 10 := by omega
      subst e
      refine wl_guess1 hr hfN ht hf hc hc0 hj (fun _ => hj) (fun _ => hQ W1 hc) (fun c => absurd (by decide) c) (fun c => absurd (by decide) c) (fun c => absurd (by decide) c)
    | succ k ih =>
      intro v x y z W1 hv hc hQ
      have hQ' : ∀ W', w_cl W' → Q (some (.int (gb (fun v => w_ls g n t N 0 (am_u (am_sub S 20) 3 j (nI v))) k (v + 1) (if (fun v => w_ls g n t N 0 (am_u (am_sub S 20) 3 j (nI v))) v = true then x ||| (1 <<< (nI v &&& 31)) else x)))) (am_hh X (am_ovl S 29 W') L) := hQ
      refine wl_guess1 hr hfN ht hf hc hc0 hj (fun _ => hj) (fun c => absurd c (nI_nlt (a := 9) (by omega) (by omega))) (fun _ W3 h3 c => ?_) (fun _ W3 h3 c c2 => ?_) (fun _ W3 h3 c c2 => ?_)
      · rw [if_neg (ne_true_of_eq_false c)] at hQ'
        exact ih (v + 1) _ _ _ W3 (by omega) h3 hQ'
      · rw [if_pos c] at hQ'
        exact ih (v + 1) _ _ _ W3 (by omega) h3 hQ'
      · rw [if_pos c] at hQ'
        exact ih (v + 1) _ _ _ W3 (by omega) h3 hQ'
  refine wp_guess ?_
  have := key 9 1 0 0 (-1000000) (am_sub S 29) (by omega) hc9 hQ
  rw [am_ovl_sub] at this
  exact this
theorem kt_guess2 (hr : r < 8) (hfN : f + N ≤ 40) (ht : ∀ i, i < N → S (8 + 1 * r) (f + i) = t i) (hf : wF (am_sub S 20) g n) (hc9 : w_cl (am_sub S 29)) (hc0 : w_cl (am_sub S 20)) (hj : j < 6) (hQ : ∀ W', w_cl W' → Q (some (.int (gb (fun v => w_ls g n t N 0 (am_u (am_sub S 20) 4 j (nI v))) 4 1 0))) (am_hh X (am_ovl S 29 W') L)) : am_mt (d + 8) 115 [.ref 280, .int (nI j), .int 2, .ref (8 + 1 * r), .int (nI f), .int (nI N)] (am_hh X S L) Q := by
  have key : ∀ (k v : Nat) (x y z : Int32) (W1 : Nat → Nat → Int32), v + k = 5 → w_cl W1 → (∀ W', w_cl W' → Q (some (.int (gb (fun v => w_ls g n t N 0 (am_u (am_sub S 20) 4 j (nI v))) k v x))) (am_hh X (am_ovl S 29 W') L)) → am_ex (d + 8) 115 13 [some (.ref 280), some (.int (nI j)), some (.int 2), some (.ref (8 + 1 * r)), some (.int (nI f)), some (.int (nI N)), some (.int x), some (.int y), some (.int z), some (.int (nI v))] [] (am_hh X (am_ovl S 29 W1) L) Q := by
    intro k
    induction k with
    | zero =>
      intro v x y z W1 hv hc hQ
      have e : v = 5 := by omega
      subst e
      refine wl_guess2 hr hfN ht hf hc hc0 hj (fun _ => hj) (fun _ => hQ W1 hc) (fun c => absurd (by decide) c) (fun c => absurd (by decide) c) (fun c => absurd (by decide) c)
    | succ k ih =>
      intro v x y z W1 hv hc hQ
      have hQ' : ∀ W', w_cl W' → Q (some (.int (gb (fun v => w_ls g n t N 0 (am_u (am_sub S 20) 4 j (nI v))) k (v + 1) (if (fun v => w_ls g n t N 0 (am_u (am_sub S 20) 4 j (nI v))) v = true then x ||| (1 <<< (nI v &&& 31)) else x)))) (am_hh X (am_ovl S 29 W') L) := hQ
      refine wl_guess2 hr hfN ht hf hc hc0 hj (fun _ => hj) (fun c => absurd c (nI_nlt (a := 4) (by omega) (by omega))) (fun _ W3 h3 c => ?_) (fun _ W3 h3 c c2 => ?_) (fun _ W3 h3 c c2 => ?_)
      · rw [if_neg (ne_true_of_eq_false c)] at hQ'
        exact ih (v + 1) _ _ _ W3 (by omega) h3 hQ'
      · rw [if_pos c] at hQ'
        exact ih (v + 1) _ _ _ W3 (by omega) h3 hQ'
      · rw [if_pos c] at hQ'
        exact ih (v + 1) _ _ _ W3 (by omega) h3 hQ'
  refine wp_guess ?_
  have := key 4 1 0 0 (-1000000) (am_sub S 29) (by omega) hc9 hQ
  rw [am_ovl_sub] at this
  exact this
theorem kt_guess3 (hr : r < 8) (hfN : f + N ≤ 40) (ht : ∀ i, i < N → S (8 + 1 * r) (f + i) = t i) (hf : wF (am_sub S 20) g n) (hc9 : w_cl (am_sub S 29)) (hc0 : w_cl (am_sub S 20)) (hj : j < 6) (hQ : ∀ W', w_cl W' → Q (some (.int (gc (fun v => w_ls g n t N 0 (am_u (am_sub S 20) 0 1 (nI v))) 99 1 0))) (am_hh X (am_ovl S 29 W') L)) : am_mt (d + 8) 115 [.ref 280, .int (nI j), .int 3, .ref (8 + 1 * r), .int (nI f), .int (nI N)] (am_hh X S L) Q := by
  have key : ∀ (k v : Nat) (x y z : Int32) (W1 : Nat → Nat → Int32), v + k = 100 → w_cl W1 → (∀ W', w_cl W' → Q (some (.int (gc (fun v => w_ls g n t N 0 (am_u (am_sub S 20) 0 1 (nI v))) k v y))) (am_hh X (am_ovl S 29 W') L)) → am_ex (d + 8) 115 13 [some (.ref 280), some (.int (nI j)), some (.int 3), some (.ref (8 + 1 * r)), some (.int (nI f)), some (.int (nI N)), some (.int x), some (.int y), some (.int z), some (.int (nI v))] [] (am_hh X (am_ovl S 29 W1) L) Q := by
    intro k
    induction k with
    | zero =>
      intro v x y z W1 hv hc hQ
      have e : v = 100 := by omega
      subst e
      refine wl_guess3 hr hfN ht hf hc hc0 hj (fun _ => hQ W1 hc) (fun c => absurd (by decide) c) (fun c => absurd (by decide) c) (fun c => absurd (by decide) c)
    | succ k ih =>
      intro v x y z W1 hv hc hQ
      have hQ' : ∀ W', w_cl W' → Q (some (.int (gc (fun v => w_ls g n t N 0 (am_u (am_sub S 20) 0 1 (nI v))) k (v + 1) (if (fun v => w_ls g n t N 0 (am_u (am_sub S 20) 0 1 (nI v))) v = true then y + 1 else y)))) (am_hh X (am_ovl S 29 W') L) := hQ
      refine wl_guess3 hr hfN ht hf hc hc0 hj (fun c => absurd c (nI_nlt (a := 99) (by omega) (by omega))) (fun _ W3 h3 c => ?_) (fun _ W3 h3 c c2 => ?_) (fun _ W3 h3 c c2 => ?_)
      · rw [if_neg (ne_true_of_eq_false c)] at hQ'
        exact ih (v + 1) _ _ _ W3 (by omega) h3 hQ'
      · rw [if_pos c] at hQ'
        exact ih (v + 1) _ _ _ W3 (by omega) h3 hQ'
      · rw [if_pos c] at hQ'
        exact ih (v + 1) _ _ _ W3 (by omega) h3 hQ'
  refine wp_guess ?_
  have := key 99 1 0 0 (-1000000) (am_sub S 29) (by omega) hc9 hQ
  rw [am_ovl_sub] at this
  exact this
theorem kt_guess4 (hr : r < 8) (hfN : f + N ≤ 40) (ht : ∀ i, i < N → S (8 + 1 * r) (f + i) = t i) (hf : wF (am_sub S 20) g n) (hc9 : w_cl (am_sub S 29)) (hc0 : w_cl (am_sub S 20)) (hj : j < 6) (hQ : ∀ W', w_cl W' → Q (some (.int (gl (fun v => w_ls g n t N 0 (am_u (am_sub S 20) 0 1 (nI v))) 99 1 (-1000000)))) (am_hh X (am_ovl S 29 W') L)) : am_mt (d + 8) 115 [.ref 280, .int (nI j), .int 4, .ref (8 + 1 * r), .int (nI f), .int (nI N)] (am_hh X S L) Q := by
  have key : ∀ (k v : Nat) (x y z : Int32) (W1 : Nat → Nat → Int32), v + k = 100 → w_cl W1 → (∀ W', w_cl W' → Q (some (.int (gl (fun v => w_ls g n t N 0 (am_u (am_sub S 20) 0 1 (nI v))) k v z))) (am_hh X (am_ovl S 29 W') L)) → am_ex (d + 8) 115 13 [some (.ref 280), some (.int (nI j)), some (.int 4), some (.ref (8 + 1 * r)), some (.int (nI f)), some (.int (nI N)), some (.int x), some (.int y), some (.int z), some (.int (nI v))] [] (am_hh X (am_ovl S 29 W1) L) Q := by
    intro k
    induction k with
    | zero =>
      intro v x y z W1 hv hc hQ
      have e : v = 100 := by omega
      subst e
      refine wl_guess4 hr hfN ht hf hc hc0 hj (fun _ => hQ W1 hc) (fun c => absurd (by decide) c) (fun c => absurd (by decide) c) (fun c => absurd (by decide) c)
    | succ k ih =>
      intro v x y z W1 hv hc hQ
      have hQ' : ∀ W', w_cl W' → Q (some (.int (gl (fun v => w_ls g n t N 0 (am_u (am_sub S 20) 0 1 (nI v))) k (v + 1) (if (fun v => w_ls g n t N 0 (am_u (am_sub S 20) 0 1 (nI v))) v = true then (if z = -1000000 then nI v else z) else z)))) (am_hh X (am_ovl S 29 W') L) := hQ
      refine wl_guess4 hr hfN ht hf hc hc0 hj (fun c => absurd c (nI_nlt (a := 99) (by omega) (by omega))) (fun _ W3 h3 c => ?_) (fun _ W3 h3 c c2 => ?_) (fun _ W3 h3 c c2 => ?_)
      · rw [if_neg (ne_true_of_eq_false c)] at hQ'
        exact ih (v + 1) _ _ _ W3 (by omega) h3 hQ'
      · rw [if_pos c, if_neg c2] at hQ'
        exact ih (v + 1) _ _ _ W3 (by omega) h3 hQ'
      · rw [if_pos c, if_pos c2] at hQ'
        exact ih (v + 1) _ _ _ W3 (by omega) h3 hQ'
  refine wp_guess ?_
  have := key 99 1 0 0 (-1000000) (am_sub S 29) (by omega) hc9 hQ
  rw [am_ovl_sub] at this
  exact this
theorem mt_byRow2 {p : Int32} (hR : mR W S 293 g n) (hK : JK S) (hr : r < 8) (hfN : f + N ≤ 40) (ht : ∀ i, i < N → S 288 (40 * r + f + i) = t i) (hp1 : p / 40 = nI r) (hp2 : p - p / 40 * 40 = nI f) (hj : j < 6) (hQ : ∀ S', F8 S S' → Q (some (.int (gb (fun v => w_ls g n t N 0 (am_u W 2 j (nI v))) 5 1 0))) (am_hh X S' L)) : am_mt (d + 9) 213 [.ref 285, .ref 290, .int (nI j), .int 5, .int p, .int (nI N)] (am_hh X S L) Q := by
  have key : ∀ (k v : Nat) (y : Int32) (S1 : Nat → Nat → Int32), v + k = 6 → FB 290 j S S1 → (∀ S', F8 S S' → Q (some (.int (gb (fun v => w_ls g n t N 0 (am_u W 2 j (nI v))) k v y))) (am_hh X S' L)) → am_ex (d + 9) 213 11 [some (.ref 285), some (.ref 290), some (.int (nI j)), some (.int 5), some (.int p), some (.int (nI N)), some (.int (S 290 j)), some (.int y), some (.int (nI v))] [] (am_hh X S1 L) Q := by
    intro k
    induction k with
    | zero =>
      intro v y S1 hv hb hQ
      have e : v = 6 := by omega
      subst e
      refine wl_byRow2 hR hK hr hfN ht hb hp1 hp2 hj (fun _ => hj) (fun _ => hj) (fun _ => hQ _ (FB_e hb (by decide))) (fun c => absurd (by decide) c) (fun c => absurd (by decide) c)
    | succ k ih =>
      intro v y S1 hv hb hQ
      have hQ' : ∀ S', F8 S S' → Q (some (.int (gb (fun v => w_ls g n t N 0 (am_u W 2 j (nI v))) k (v + 1) (if (fun v => w_ls g n t N 0 (am_u W 2 j (nI v))) v = true then y ||| (1 <<< (nI v &&& 31)) else y)))) (am_hh X S' L) := hQ
      refine wl_byRow2 hR hK hr hfN ht hb hp1 hp2 hj (fun _ => hj) (fun _ => hj) (fun c => absurd c (nI_nlt (a := 5) (by omega) (by omega))) (fun _ S2 _ _ S3 b3 c => ?_) (fun _ S2 _ _ S3 b3 c => ?_)
      · rw [if_neg (ne_true_of_eq_false c)] at hQ'
        rw [Int32.or_zero]
        exact ih (v + 1) _ S3 (by omega) b3 hQ'
      · rw [if_pos c] at hQ'
        exact ih (v + 1) _ S3 (by omega) b3 hQ'
  exact wp_byRow2 hj (key 5 1 0 S (by omega) FB_r hQ)
theorem mt_byRow3 {p : Int32} (hR : mR W S 293 g n) (hK : JK S) (hr : r < 8) (hfN : f + N ≤ 40) (ht : ∀ i, i < N → S 288 (40 * r + f + i) = t i) (hp1 : p / 40 = nI r) (hp2 : p - p / 40 * 40 = nI f) (hj : j < 6) (hQ : ∀ S', F8 S S' → Q (some (.int (gb (fun v => w_ls g n t N 0 (am_u W 3 j (nI v))) 9 1 0))) (am_hh X S' L)) : am_mt (d + 9) 213 [.ref 285, .ref 291, .int (nI j), .int 9, .int p, .int (nI N)] (am_hh X S L) Q := by
  have key : ∀ (k v : Nat) (y : Int32) (S1 : Nat → Nat → Int32), v + k = 10 → FB 291 j S S1 → (∀ S', F8 S S' → Q (some (.int (gb (fun v => w_ls g n t N 0 (am_u W 3 j (nI v))) k v y))) (am_hh X S' L)) → am_ex (d + 9) 213 11 [some (.ref 285), some (.ref 291), some (.int (nI j)), some (.int 9), some (.int p), some (.int (nI N)), some (.int (S 291 j)), some (.int y), some (.int (nI v))] [] (am_hh X S1 L) Q := by
    intro k
    induction k with
    | zero =>
      intro v y S1 hv hb hQ
      have e : v = 10 := by omega
      subst e
      refine wl_byRow3 hR hK hr hfN ht hb hp1 hp2 hj (fun _ => hj) (fun _ => hj) (fun _ => hQ _ (FB_e hb (by decide))) (fun c => absurd (by decide) c) (fun c => absurd (by decide) c)
    | succ k ih =>
      intro v y S1 hv hb hQ
      have hQ' : ∀ S', F8 S S' → Q (some (.int (gb (fun v => w_ls g n t N 0 (am_u W 3 j (nI v))) k (v + 1) (if (fun v => w_ls g n t N 0 (am_u W 3 j (nI v))) v = true then y ||| (1 <<< (nI v &&& 31)) else y)))) (am_hh X S' L) := hQ
      refine wl_byRow3 hR hK hr hfN ht hb hp1 hp2 hj (fun _ => hj) (fun _ => hj) (fun c => absurd c (nI_nlt (a := 9) (by omega) (by omega))) (fun _ S2 _ _ S3 b3 c => ?_) (fun _ S2 _ _ S3 b3 c => ?_)
      · rw [if_neg (ne_true_of_eq_false c)] at hQ'
        rw [Int32.or_zero]
        exact ih (v + 1) _ S3 (by omega) b3 hQ'
      · rw [if_pos c] at hQ'
        exact ih (v + 1) _ S3 (by omega) b3 hQ'
  exact wp_byRow3 hj (key 9 1 0 S (by omega) FB_r hQ)
theorem mt_byRow4 {p : Int32} (hR : mR W S 293 g n) (hK : JK S) (hr : r < 8) (hfN : f + N ≤ 40) (ht : ∀ i, i < N → S 288 (40 * r + f + i) = t i) (hp1 : p / 40 = nI r) (hp2 : p - p / 40 * 40 = nI f) (hj : j < 6) (hQ : ∀ S', F8 S S' → Q (some (.int (gb (fun v => w_ls g n t N 0 (am_u W 4 j (nI v))) 4 1 0))) (am_hh X S' L)) : am_mt (d + 9) 213 [.ref 285, .ref 292, .int (nI j), .int 4, .int p, .int (nI N)] (am_hh X S L) Q := by
  have key : ∀ (k v : Nat) (y : Int32) (S1 : Nat → Nat → Int32), v + k = 5 → FB 292 j S S1 → (∀ S', F8 S S' → Q (some (.int (gb (fun v => w_ls g n t N 0 (am_u W 4 j (nI v))) k v y))) (am_hh X S' L)) → am_ex (d + 9) 213 11 [some (.ref 285), some (.ref 292), some (.int (nI j)), some (.int 4), some (.int p), some (.int (nI N)), some (.int (S 292 j)), some (.int y), some (.int (nI v))] [] (am_hh X S1 L) Q := by
    intro k
    induction k with
    | zero =>
      intro v y S1 hv hb hQ
      have e : v = 5 := by omega
      subst e
      refine wl_byRow4 hR hK hr hfN ht hb hp1 hp2 hj (fun _ => hj) (fun _ => hj) (fun _ => hQ _ (FB_e hb (by decide))) (fun c => absurd (by decide) c) (fun c => absurd (by decide) c)
    | succ k ih =>
      intro v y S1 hv hb hQ
      have hQ' : ∀ S', F8 S S' → Q (some (.int (gb (fun v => w_ls g n t N 0 (am_u W 4 j (nI v))) k (v + 1) (if (fun v => w_ls g n t N 0 (am_u W 4 j (nI v))) v = true then y ||| (1 <<< (nI v &&& 31)) else y)))) (am_hh X S' L) := hQ
      refine wl_byRow4 hR hK hr hfN ht hb hp1 hp2 hj (fun _ => hj) (fun _ => hj) (fun c => absurd c (nI_nlt (a := 4) (by omega) (by omega))) (fun _ S2 _ _ S3 b3 c => ?_) (fun _ S2 _ _ S3 b3 c => ?_)
      · rw [if_neg (ne_true_of_eq_false c)] at hQ'
        rw [Int32.or_zero]
        exact ih (v + 1) _ S3 (by omega) b3 hQ'
      · rw [if_pos c] at hQ'
        exact ih (v + 1) _ S3 (by omega) b3 hQ'
  exact wp_byRow4 hj (key 4 1 0 S (by omega) FB_r hQ)
theorem mt_limitsBy3 (hR : mR W S 293 g n) (hK : JK S) (hr : r < 8) (hfN : f + N ≤ 40) (ht : ∀ i, i < N → S 288 (40 * r + f + i) = t i) (hQ : ∀ S', F8 S S' → Q (some (.int (dc (fun v => w_ls g n t N 0 (am_u W 0 1 (nI v))) 99 0))) (am_hh X S' L)) : am_mt (d + 9) 215 [.ref 285, .int 3, .int (nI r), .int (nI f), .int (nI N)] (am_hh X S L) Q := by
  have key : ∀ (v : Nat) (x y : Int32) (S1 : Nat → Nat → Int32), v ≤ 99 → F8 S S1 → (∀ S', F8 S S' → Q (some (.int (dc (fun v => w_ls g n t N 0 (am_u W 0 1 (nI v))) v x))) (am_hh X S' L)) → am_ex (d + 9) 215 11 [some (.ref 285), some (.int 3), some (.int (nI r)), some (.int (nI f)), some (.int (nI N)), some (.int x), some (.int y), some (.int (nI v))] [] (am_hh X S1 L) Q := by
    intro v
    induction v with
    | zero =>
      intro x y S1 hv hb hQ
      refine wl_limitsBy (j := 0) hR hK hr hfN ht hb (fun _ c => absurd rfl c) (fun _ c => hQ S1 hb) (fun c => absurd (by decide) c) (fun c => absurd (by decide) c)
    | succ v ih =>
      intro x y S1 hv hb hQ
      have hQ' : ∀ S', F8 S S' → Q (some (.int (dc (fun v => w_ls g n t N 0 (am_u W 0 1 (nI v))) v (if (fun v => w_ls g n t N 0 (am_u W 0 1 (nI v))) (v + 1) = true then x + 1 else x)))) (am_hh X S' L) := hQ
      have hb8 : ∀ S4, FB 298 0 S S4 → F8 S S4 := fun S4 b a ha => b.1 a ha ha
      have e1 : nI (v + 1) + -1 = nI v := by
        rw [← Int32.sub_eq_add_neg]; exact nI_pred v
      refine wl_limitsBy (j := 0) hR hK hr hfN ht hb (fun c => absurd c (nI_nle (by omega) (by omega))) (fun c => absurd c (nI_nle (by omega) (by omega))) (fun _ S3 _ _ S4 b4 c => ?_) (fun _ S3 _ _ S4 b4 c => ?_)
      · rw [if_neg (ne_true_of_eq_false c)] at hQ'
        rw [e1]
        exact ih _ _ S4 (by omega) (hb8 S4 b4) hQ'
      · rw [if_pos c] at hQ'
        rw [e1]
        exact ih _ _ S4 (by omega) (hb8 S4 b4) hQ'
  exact wp_limitsBy (key 99 0 (-1000000) S (by omega) F8_r hQ)
theorem mt_limitsBy4 (hR : mR W S 293 g n) (hK : JK S) (hr : r < 8) (hfN : f + N ≤ 40) (ht : ∀ i, i < N → S 288 (40 * r + f + i) = t i) (hQ : ∀ S', F8 S S' → Q (some (.int (dl (fun v => w_ls g n t N 0 (am_u W 0 1 (nI v))) 99 (-1000000)))) (am_hh X S' L)) : am_mt (d + 9) 215 [.ref 285, .int 4, .int (nI r), .int (nI f), .int (nI N)] (am_hh X S L) Q := by
  have key : ∀ (v : Nat) (x y : Int32) (S1 : Nat → Nat → Int32), v ≤ 99 → F8 S S1 → (∀ S', F8 S S' → Q (some (.int (dl (fun v => w_ls g n t N 0 (am_u W 0 1 (nI v))) v y))) (am_hh X S' L)) → am_ex (d + 9) 215 11 [some (.ref 285), some (.int 4), some (.int (nI r)), some (.int (nI f)), some (.int (nI N)), some (.int x), some (.int y), some (.int (nI v))] [] (am_hh X S1 L) Q := by
    intro v
    induction v with
    | zero =>
      intro x y S1 hv hb hQ
      refine wl_limitsBy (j := 0) hR hK hr hfN ht hb (fun _ c => hQ S1 hb) (fun _ c => absurd c (by decide)) (fun c => absurd (by decide) c) (fun c => absurd (by decide) c)
    | succ v ih =>
      intro x y S1 hv hb hQ
      have hQ' : ∀ S', F8 S S' → Q (some (.int (dl (fun v => w_ls g n t N 0 (am_u W 0 1 (nI v))) v (if (fun v => w_ls g n t N 0 (am_u W 0 1 (nI v))) (v + 1) = true then nI (v + 1) else y)))) (am_hh X S' L) := hQ
      have hb8 : ∀ S4, FB 298 0 S S4 → F8 S S4 := fun S4 b a ha => b.1 a ha ha
      have e1 : nI (v + 1) + -1 = nI v := by
        rw [← Int32.sub_eq_add_neg]; exact nI_pred v
      refine wl_limitsBy (j := 0) hR hK hr hfN ht hb (fun c => absurd c (nI_nle (by omega) (by omega))) (fun c => absurd c (nI_nle (by omega) (by omega))) (fun _ S3 _ _ S4 b4 c => ?_) (fun _ S3 _ _ S4 b4 c => ?_)
      · rw [if_neg (ne_true_of_eq_false c)] at hQ'
        rw [e1]
        exact ih _ _ S4 (by omega) (hb8 S4 b4) hQ'
      · rw [if_pos c] at hQ'
        rw [e1]
        exact ih _ _ S4 (by omega) (hb8 S4 b4) hQ'
  exact wp_limitsBy (key 99 0 (-1000000) S (by omega) F8_r hQ)
set_option maxRecDepth 100000 in
theorem at_dec : ((List.range 8).all fun r => (List.range 40).all fun f => decide ((40 * nI r + nI f) / 40 = nI r ∧ (40 * nI r + nI f) - (40 * nI r + nI f) / 40 * 40 = nI f)) = true := by decide +kernel
theorem at_div (hr : r < 8) (hf : f < 40) : (40 * nI r + nI f) / 40 = nI r := (of_decide_eq_true (List.all_eq_true.mp (List.all_eq_true.mp at_dec r (List.mem_range.mpr hr)) f (List.mem_range.mpr hf))).1
theorem at_rem (hr : r < 8) (hf : f < 40) : (40 * nI r + nI f) - (40 * nI r + nI f) / 40 * 40 = nI f := (of_decide_eq_true (List.all_eq_true.mp (List.all_eq_true.mp at_dec r (List.mem_range.mpr hr)) f (List.mem_range.mpr hf))).2
end WHO2
