/-! What is foretold, by the class. -/
def w_when (g n : Nat) (so : Int32) (j : Nat) : Nat → Nat → (Nat → Nat → Int32) → Int32
  | 0, _, _ => -1000000
  | k + 1, t, W => if W 5 j = so then nI t else w_when g n so j k (t + 1) (w_ms W rk0 g n)
def w_fs (g n : Nat) : Nat → Nat → (Nat → Nat → Int32) → Int32
  | 0, _, _ => -1000000
  | k + 1, t, W => if w_mb W rk0 g n = true then w_fs g n k (t + 1) (w_ms W rk0 g n) else nI t
def w_wo (g n : Nat) : Nat → Nat → (Nat → Nat → Int32) → Int32
  | 0, _, _ => -1000000
  | k + 1, t, W => if w_wh W 0 n 0 0 = 0 ∧ w_wh W 1 n 0 0 = 0 then nI t else w_wo g n k (t + 1) (w_ms W rk0 g n)
section FORE
variable {d : Nat} {X : Nat × (Nat → Int32)} {S : Nat → Nat → Int32} {L : Nat → Int64} {g n : Nat} {Q : Option Value → am_H → Prop}
theorem kt_goOn {K : Nat} {v : Int32} (hv : v = nI K) (hK : K < 2 ^ 31) (hf : wF (am_sub S 20) g n) (hc9 : w_cl (am_sub S 29)) (hc0 : w_cl (am_sub S 20)) (hQ : Q none (am_hh X (am_ovl S 29 (w_it rk0 g n K (am_sub S 20))) L)) : am_mt (d + 6) 81 [.ref 276, .int v] (am_hh X S L) Q := by
  subst hv
  have key : ∀ (k j : Nat) (W1 : Nat → Nat → Int32), j + k = K → wF W1 g n → Q none (am_hh X (am_ovl S 29 (w_it rk0 g n k W1)) L) → am_ex (d + 6) 81 13 [some (.ref 276), some (.int (nI K)), some (.int (nI j))] [] (am_hh X (am_ovl S 29 W1) L) Q := by
    intro k
    induction k with
    | zero =>
      intro j W1 hj h1 hQ
      exact wl_goOn h1 (fun _ => hQ) (fun c => absurd (nI_le (by omega) (by omega)) c)
    | succ k ih =>
      intro j W1 hj h1 hQ
      exact wl_goOn h1 (fun c => absurd c (nI_ge (by omega) (by omega))) (fun _ => ih (j + 1) _ (by omega) (wF_ms h1) hQ)
  exact wp_goOn hf hc9 hc0 (key K 0 _ (by omega) hf hQ)
theorem n60 {t : Nat} (h : t ≤ 60) : ¬ (60 : Int32) < nI t := nI_nlt (a := 60) h (by omega)
theorem kt_whenIs {j : Nat} {q : Int32} (hj : j < 6) (hf : wF (am_sub S 20) g n) (hc9 : w_cl (am_sub S 29)) (hc0 : w_cl (am_sub S 20)) (hQ : ∀ W1, w_cl W1 → Q (some (.int (w_when g n q j 61 0 (am_sub S 20)))) (am_hh X (am_ovl S 29 W1) L)) : am_mt (d + 6) 84 [.ref 276, .int (nI j), .int q] (am_hh X S L) Q := by
  have key : ∀ (k t : Nat) (W1 : Nat → Nat → Int32), t + k = 61 → wF W1 g n → w_cl W1 → (∀ W2, w_cl W2 → Q (some (.int (w_when g n q j k t W1))) (am_hh X (am_ovl S 29 W2) L)) → am_ex (d + 6) 84 13 [some (.ref 276), some (.int (nI j)), some (.int q), some (.int (nI t))] [] (am_hh X (am_ovl S 29 W1) L) Q := by
    intro k
    induction k with
    | zero =>
      intro t W1 ht h1 hc hQ
      have : t = 61 := by omega
      subst this
      exact wl_whenIs h1 hj (fun _ => hj) (fun _ => hQ _ hc) (fun c => absurd (by decide) c) (fun c => absurd (by decide) c)
    | succ k ih =>
      intro t W1 ht h1 hc hQ
      refine wl_whenIs h1 hj (fun _ => hj) (fun c => absurd c (n60 (by omega))) (fun _ c => ih (t + 1) _ (by omega) (wF_ms h1) (w_cl_ms h1 hc) (fun W2 h2 => ?_)) (fun _ c => ?_)
      · have := hQ W2 h2
        unfold w_when at this
        rw [if_neg c] at this
        exact this
      · have := hQ W1 hc
        unfold w_when at this
        rw [if_pos c] at this
        exact this
  exact wp_whenIs hf hc9 hc0 (key 61 0 _ (by omega) hf hc0 hQ)
theorem kt_firstStuck (hf : wF (am_sub S 20) g n) (hc9 : w_cl (am_sub S 29)) (hc0 : w_cl (am_sub S 20)) (hQ : ∀ W1, w_cl W1 → Q (some (.int (w_fs g n 60 1 (am_sub S 20)))) (am_hh X (am_ovl S 29 W1) L)) : am_mt (d + 6) 86 [.ref 276] (am_hh X S L) Q := by
  have key : ∀ (k t : Nat) (W1 : Nat → Nat → Int32), t + k = 61 → wF W1 g n → w_cl W1 → (∀ W2, w_cl W2 → Q (some (.int (w_fs g n k t W1))) (am_hh X (am_ovl S 29 W2) L)) → am_ex (d + 6) 86 13 [some (.ref 276), some (.int (nI t))] [] (am_hh X (am_ovl S 29 W1) L) Q := by
    intro k
    induction k with
    | zero =>
      intro t W1 ht h1 hc hQ
      have : t = 61 := by omega
      subst this
      exact wl_firstStuck h1 (fun _ => hQ _ hc) (fun c => absurd (by decide) c) (fun c => absurd (by decide) c)
    | succ k ih =>
      intro t W1 ht h1 hc hQ
      refine wl_firstStuck h1 (fun c => absurd c (n60 (by omega))) (fun _ c => ih (t + 1) _ (by omega) (wF_ms h1) (w_cl_ms h1 hc) (fun W2 h2 => ?_)) (fun _ c => ?_)
      · have := hQ W2 h2
        unfold w_fs at this
        rw [if_pos c] at this
        exact this
      · have := hQ _ (w_cl_ms (rk := rk0) h1 hc)
        unfold w_fs at this
        rw [if_neg (ne_true_of_eq_false c)] at this
        exact this
  exact wp_firstStuck hf hc9 hc0 (key 60 1 _ (by omega) hf hc0 hQ)
theorem kt_whenOver (hf : wF (am_sub S 20) g n) (hc9 : w_cl (am_sub S 29)) (hc0 : w_cl (am_sub S 20)) (hQ : ∀ W1, w_cl W1 → Q (some (.int (w_wo g n 61 0 (am_sub S 20)))) (am_hh X (am_ovl S 29 W1) L)) : am_mt (d + 6) 87 [.ref 276] (am_hh X S L) Q := by
  have key : ∀ (k t : Nat) (W1 : Nat → Nat → Int32), t + k = 61 → wF W1 g n → w_cl W1 → (∀ W2, w_cl W2 → Q (some (.int (w_wo g n k t W1))) (am_hh X (am_ovl S 29 W2) L)) → am_ex (d + 6) 87 13 [some (.ref 276), some (.int (nI t))] [] (am_hh X (am_ovl S 29 W1) L) Q := by
    intro k
    induction k with
    | zero =>
      intro t W1 ht h1 hc hQ
      have : t = 61 := by omega
      subst this
      exact wl_whenOver h1 (fun _ => hQ _ hc) (fun c => absurd (by decide) c) (fun c => absurd (by decide) c) (fun c => absurd (by decide) c)
    | succ k ih =>
      intro t W1 ht h1 hc hQ
      have go : ¬ (w_wh W1 0 n 0 0 = 0 ∧ w_wh W1 1 n 0 0 = 0) → am_ex (d + 6) 87 13 [some (.ref 276), some (.int (nI (t + 1)))] [] (am_hh X (am_ovl S 29 (w_ms W1 rk0 g n)) L) Q := fun c => ih (t + 1) _ (by omega) (wF_ms h1) (w_cl_ms h1 hc) (fun W2 h2 => by
        have := hQ W2 h2
        unfold w_wo at this
        rw [if_neg c] at this
        exact this)
      refine wl_whenOver h1 (fun c => absurd c (n60 (by omega))) (fun _ c => go (fun z => c z.1)) (fun _ _ c => go (fun z => c z.2)) (fun _ c1 c2 => ?_)
      have := hQ W1 hc
      unfold w_wo at this
      rw [if_pos ⟨c1, c2⟩] at this
      exact this
  exact wp_whenOver hf hc9 hc0 (key 61 0 _ (by omega) hf hc0 hQ)
end FORE
