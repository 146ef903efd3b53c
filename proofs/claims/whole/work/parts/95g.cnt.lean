def w_hm (f : Nat → Int32) : Nat → Nat → Int32 → Int32
  | 0, _, a => a
  | k + 1, j, a => w_hm f k (j + 1) (if f j = -1 then a else a + 1)
def m_hm (f : Nat → Int32) : Nat → Nat → Int32 → Int32
  | 0, _, a => a
  | k + 1, j, a => m_hm f k (j + 1) (if 0 ≤ f j then a + 1 else a)
section CNTS
variable {d : Nat} {X : Nat × (Nat → Int32)} {S : Nat → Nat → Int32} {L : Nat → Int64} {g n : Nat} {Q : Option Value → am_H → Prop}
theorem kt_howMany (hQ : Q (some (.int (w_hm (S 17) 8 0 0))) (am_hh X S L)) : am_mt (d + 1) 143 [.ref 6] (am_hh X S L) Q := by
  have key : ∀ (k j : Nat) (a : Int32), j + k = 8 → Q (some (.int (w_hm (S 17) k j a))) (am_hh X S L) → am_ex (d + 1) 143 4 [some (.ref 6), some (.int a), some (.int (nI j))] [] (am_hh X S L) Q := by
    intro k
    induction k with
    | zero =>
      intro j a hj hQ
      have c0 : (8 : Int32) ≤ nI j := nI_le (a := 8) (by omega) (by omega)
      exact wl_howMany (fun c => absurd c0 c) (fun _ => hQ) (fun c => absurd c0 c) (fun c => absurd c0 c)
    | succ k ih =>
      intro j a hj hQ
      unfold w_hm at hQ
      refine wl_howMany (fun _ => by omega) (fun c => absurd c (nI_ge (b := 8) (by omega) (by omega))) (fun _ c => ?_) (fun _ c => ?_)
      · rw [if_pos c] at hQ
        exact ih (j + 1) _ (by omega) hQ
      · rw [if_neg c] at hQ
        exact ih (j + 1) _ (by omega) hQ
  exact wp_howMany (key 8 0 0 (by omega) hQ)
theorem kt_rowsThere (hQ : Q (some (.int (m_hm (S 287) 8 0 0))) (am_hh X S L)) : am_mt (d + 1) 235 [.ref 285] (am_hh X S L) Q := by
  have key : ∀ (k j : Nat) (a : Int32), j + k = 8 → Q (some (.int (m_hm (S 287) k j a))) (am_hh X S L) → am_ex (d + 1) 235 4 [some (.ref 285), some (.int a), some (.int (nI j))] [] (am_hh X S L) Q := by
    intro k
    induction k with
    | zero =>
      intro j a hj hQ
      have c0 : (8 : Int32) ≤ nI j := nI_le (a := 8) (by omega) (by omega)
      exact wl_rowsThere (fun c => absurd c0 c) (fun _ => hQ) (fun c => absurd c0 c) (fun c => absurd c0 c)
    | succ k ih =>
      intro j a hj hQ
      unfold m_hm at hQ
      refine wl_rowsThere (fun _ => by omega) (fun c => absurd c (nI_ge (b := 8) (by omega) (by omega))) (fun _ c => ?_) (fun _ c => ?_)
      · rw [if_pos c] at hQ
        exact ih (j + 1) _ (by omega) hQ
      · rw [if_neg c] at hQ
        rw [Int32.add_zero]
        exact ih (j + 1) _ (by omega) hQ
  exact wp_rowsThere (key 8 0 0 (by omega) hQ)
theorem kt_mballast (hg : S 285 8 = nI g) (hg12 : g ≤ 12) (hQ : Q (some (.int (w_sum (fun i => S 293 (3 + i)) g 0 0))) (am_hh X S L)) : am_mt (d + 1) 236 [.ref 285] (am_hh X S L) Q := by
  have key : ∀ (k j : Nat) (a : Int32), j + k = g → Q (some (.int (w_sum (fun i => S 293 (3 + i)) k j a))) (am_hh X S L) → am_ex (d + 1) 236 4 [some (.ref 285), some (.int a), some (.int (nI j))] [] (am_hh X S L) Q := by
    intro k
    induction k with
    | zero =>
      intro j a hj hQ
      have c0 : S 285 8 ≤ nI j := by rw [hg]; exact nI_le (by omega) (by omega)
      exact wl_mballast (fun c => absurd c0 c) (fun _ => hQ) (fun c => absurd c0 c)
    | succ k ih =>
      intro j a hj hQ
      have c0 : ¬ S 285 8 ≤ nI j := by rw [hg]; exact nI_ge (by omega) (by omega)
      exact wl_mballast (fun _ => by omega) (fun c => absurd c c0) (fun _ => ih (j + 1) _ (by omega) hQ)
  exact wp_mballast (key g 0 0 (by omega) hQ)
theorem kt_mridden (hn : S 285 7 = nI n) (hn6 : n ≤ 6) (hQ : Q (some (.int (w_sum (fun i => S 293 (27 + i)) n 0 0))) (am_hh X S L)) : am_mt d 202 [.ref 285, .ref 293] (am_hh X S L) Q := by
  have key : ∀ (k j : Nat) (a : Int32), j + k = n → Q (some (.int (w_sum (fun i => S 293 (27 + i)) k j a))) (am_hh X S L) → am_ex d 202 4 [some (.ref 285), some (.ref 293), some (.int a), some (.int (nI j))] [] (am_hh X S L) Q := by
    intro k
    induction k with
    | zero =>
      intro j a hj hQ
      have c0 : S 285 7 ≤ nI j := by rw [hn]; exact nI_le (by omega) (by omega)
      exact wl_riddenOf (Or.inl rfl) (fun c => absurd c0 c) (fun _ => hQ) (fun c => absurd c0 c)
    | succ k ih =>
      intro j a hj hQ
      have c0 : ¬ S 285 7 ≤ nI j := by rw [hn]; exact nI_ge (by omega) (by omega)
      exact wl_riddenOf (Or.inl rfl) (fun _ => by omega) (fun c => absurd c c0) (fun _ => ih (j + 1) _ (by omega) hQ)
  exact wp_riddenOf (Or.inl rfl) (key n 0 0 (by omega) hQ)
theorem hm_eq {f f' : Nat → Int32} (h : ∀ r, r < 8 → f r = f' r ∧ (f r = -1 ∨ ∃ n, n ≤ 40 ∧ f r = nI n)) : ∀ (k j : Nat) (a : Int32), j + k ≤ 8 → w_hm f k j a = m_hm f' k j a
  | 0, _, _, _ => rfl
  | k + 1, j, a, hj => by
    unfold w_hm m_hm
    obtain ⟨e, h2⟩ := h j (by omega)
    rw [← e]
    rcases h2 with h2 | ⟨x, hx, h2⟩
    · rw [h2, if_pos rfl, if_neg (by decide)]
      exact hm_eq h k (j + 1) _ (by omega)
    · rw [h2, if_neg (nI_m1 (by omega)), if_pos (nI_pos' (by omega))]
      exact hm_eq h k (j + 1) _ (by omega)
theorem w_sum_c {f f' : Nat → Int32} {m : Nat} (h : ∀ i, i < m → f i = f' i) : ∀ (k j : Nat) (a : Int32), j + k ≤ m → w_sum f k j a = w_sum f' k j a
  | 0, _, _, _ => rfl
  | k + 1, j, a, hj => by
    unfold w_sum
    rw [h j (by omega)]
    exact w_sum_c h k (j + 1) _ (by omega)
end CNTS
