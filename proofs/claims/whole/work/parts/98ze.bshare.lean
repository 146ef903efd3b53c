section SHARE2
variable {d : Nat} {X : Nat × (Nat → Int32)} {S : Nat → Nat → Int32} {L : Nat → Int64} {g n t : Nat} {q : Int32} {Q : Option Value → am_H → Prop}
theorem kt_share (hn : S 20 4 = nI n) (hn6 : n ≤ 6) (ht : t < n) (hQ : Q (some (.int (sh_r (ro (S 25) (S 27)) q n t))) (am_hh X S L)) : am_mt (d + 4) 105 [.ref 20, .int (nI t), .int q] (am_hh X S L) Q := by
  have hge : ∀ j, j = n → S 20 4 ≤ nI j := fun j e => by rw [hn, e]; exact Int32.le_rfl
  have hlt : ∀ j, j < n → ¬ S 20 4 ≤ nI j := fun j e => by rw [hn, nI_leI (by omega) (by omega)]; omega
  have lp3 : ∀ A, ¬ A = 0 → ∀ (k j : Nat) (x y : Int32) (x7 : Option Value), j + k = n → Q (some (.int (if sh_o (ro (S 25) (S 27)) q A k j x ≤ sh_b (ro (S 25) (S 27)) t k j y then q * ro (S 25) (S 27) t / A + 0 else q * ro (S 25) (S 27) t / A + 1))) (am_hh X S L) → am_ex (d + 4) 105 52 [some (.ref 20), some (.int (nI t)), some (.int q), some (.int A), some (.int x), some (.int y), some (.int (nI j)), x7] [] (am_hh X S L) Q := by
    intro A hA k
    induction k with
    | zero =>
      intro j x y x7 hj hq
      have c0 := hge j (by omega)
      unfold sh_o sh_b at hq
      refine wl_share3 (fun _ => by omega) (fun _ => hA) (fun c => absurd c0 c) (fun c => absurd c0 c) (fun _ c => ?_) (fun _ c => ?_) (fun c => absurd c0 c) (fun c => absurd c0 c) (fun c => absurd c0 c)
      · rw [if_pos c] at hq; exact hq
      · rw [if_neg c] at hq; exact hq
    | succ k ih =>
      intro j x y x7 hj hq
      have c0 := hlt j (by omega)
      unfold sh_o sh_b at hq
      have htj : nI t ≤ nI j ↔ t ≤ j := nI_leI (by omega) (by omega)
      refine wl_share3 (fun c => absurd c c0) (fun c => absurd c c0) (fun _ => by omega) (fun _ => hA) (fun c => absurd c c0) (fun c => absurd c c0) (fun _ c => ?_) (fun _ c c2 => ?_) (fun _ c c2 => ?_)
      · rw [if_neg (show ¬ (¬ ro (S 25) (S 27) j ≤ 0 ∧ j < t) from fun z => z.1 c)] at hq
        exact ih (j + 1) _ _ _ (by omega) hq
      · rw [htj] at c2
        rw [if_neg (show ¬ (¬ ro (S 25) (S 27) j ≤ 0 ∧ j < t) from fun z => by have := z.2; omega)] at hq
        exact ih (j + 1) _ _ _ (by omega) hq
      · rw [htj] at c2
        rw [if_pos (show (¬ ro (S 25) (S 27) j ≤ 0 ∧ j < t) from ⟨c, by omega⟩)] at hq
        exact ih (j + 1) _ _ _ (by omega) hq
  have lp1 : ∀ (k j : Nat) (A : Int32), j + k = n → (∀ j', am_ex (d + 4) 105 29 [some (.ref 20), some (.int (nI t)), some (.int q), some (.int (w_sum (ro (S 25) (S 27)) k j A)), some (.int j'), none, none, none] [] (am_hh X S L) Q) → am_ex (d + 4) 105 5 [some (.ref 20), some (.int (nI t)), some (.int q), some (.int A), some (.int (nI j)), none, none, none] [] (am_hh X S L) Q := by
    intro k
    induction k with
    | zero =>
      intro j A hj hq
      have c0 := hge j (by omega)
      exact wl_share1 (fun c => absurd c0 c) (fun _ => hq _) (fun c => absurd c0 c)
    | succ k ih =>
      intro j A hj hq
      have c0 := hlt j (by omega)
      exact wl_share1 (fun _ => by omega) (fun c => absurd c c0) (fun _ => ih (j + 1) _ (by omega) hq)
  refine wp_share (lp1 n 0 0 (by omega) (fun j' => ?_))
  unfold sh_r at hQ
  refine wl_share2 (fun _ => by omega) (fun c => ?_) (fun c c2 => ?_) (fun c c2 => ?_)
  · rw [if_pos (Or.inl c)] at hQ; exact hQ
  · rw [if_neg (fun z => z.elim c c2)] at hQ
    have hA : ¬ w_sum (ro (S 25) (S 27)) n 0 0 = 0 := fun z => c (by rw [z]; decide)
    refine lp3 _ hA n 0 q 0 none (by omega) ?_
    have e := sh_b_a (ro (S 25) (S 27)) t (n - t) t 0 0 (by omega)
    rw [show t + (n - t) = n by omega] at e
    rw [e]
    exact hQ
  · rw [if_pos (Or.inr c2)] at hQ; exact hQ
theorem m_share (f : Nat → Int32) (hf : ∀ j, j < n → f j = if S 293 (15 + j) = 2 then S 293 (27 + j) else 0) (hr : ∀ j, j < n → ∃ r, r ≤ 99 ∧ f j = nI r) (hn : S 285 7 = nI n) (hn6 : n ≤ 6) (ht : t < n) (hQ : Q (some (.int (sh_r f q n t))) (am_hh X S L)) : am_ex (d + 6) 208 27 [some (.ref 285), some (.int (nI t)), some (.int q), some (.int 0), some (.int (nI 0)), none, none] [] (am_hh X S L) Q := by
  have hge : ∀ j, j = n → S 285 7 ≤ nI j := fun j e => by rw [hn, e]; exact Int32.le_rfl
  have hlt : ∀ j, j < n → ¬ S 285 7 ≤ nI j := fun j e => by rw [hn, nI_leI (by omega) (by omega)]; omega
  obtain ⟨s, hs1, hs2, -, hs4⟩ := sh_z hr n 0 0 (by omega) (by omega)
  have hs2' : w_sum f n 0 0 = nI s := hs2
  have hA0 : w_sum f n 0 0 ≤ 0 ↔ w_sum f n 0 0 = 0 := by
    rw [hs2', show (0 : Int32) = nI 0 from rfl, nI_leI (by omega) (by omega), nI_eq (by omega) (by omega)]
    omega
  have hz : w_sum f n 0 0 = 0 → f t = 0 := fun z => by
    rw [hs2', show (0 : Int32) = nI 0 from rfl, nI_eq (by omega) (by omega)] at z
    exact hs4 z t (by omega) ht
  have ft := hf t ht
  have lp3 : ∀ (k j : Nat) (x y : Int32), j + k = t → (w_sum f n 0 0 = 0 ∨ Q (some (.int (if w_sum f n 0 0 ≤ 0 ∨ f t = 0 then 0 else if x ≤ sh_a f k j y then q * f t / w_sum f n 0 0 + 0 else q * f t / w_sum f n 0 0 + 1))) (am_hh X S L)) → am_ex (d + 6) 208 121 [some (.ref 285), some (.int (nI t)), some (.int q), some (.int (w_sum f n 0 0)), some (.int x), some (.int y), some (.int (nI j))] [] (am_hh X S L) Q := by
    intro k
    induction k with
    | zero =>
      intro j x y hj hq
      have e : j = t := by omega
      subst e
      unfold sh_r at hQ
      have q0 : w_sum f n 0 0 = 0 → Q (some (.int 0)) (am_hh X S L) := fun z => by
        rw [if_pos (Or.inl (hA0.mpr z))] at hQ; exact hQ
      have qf : f j = 0 → Q (some (.int 0)) (am_hh X S L) := fun z => by
        rw [if_pos (Or.inr z)] at hQ; exact hQ
      have fr : S 293 (15 + j) = 2 → f j = S 293 (27 + j) := fun z => by rw [ft, if_pos z]
      have fp : S 293 (15 + j) = 2 → ¬ S 293 (27 + j) ≤ 0 → ¬ f j = 0 := fun z z2 z3 => z2 (by rw [← fr z, z3]; decide)
      refine wl_mshare3 (fun _ => by omega) (fun _ _ => by omega) (fun _ _ _ c => c) (fun _ _ _ c => c) (fun c => absurd Int32.le_rfl c) (fun c => absurd Int32.le_rfl c) (fun _ _ c => q0 c) (fun _ c _ => qf (by rw [ft, if_neg c])) (fun _ _ _ c => q0 c) (fun _ c c2 c3 => ?_) (fun _ c c2 c3 _ => q0 c3) (fun _ c c2 c3 _ => absurd (hz c3) (fp c c2)) (fun _ c c2 c3 c4 => ?_) (fun _ c c2 c3 c4 => ?_) (fun c => absurd Int32.le_rfl c) (fun c => absurd Int32.le_rfl c) (fun c => absurd Int32.le_rfl c)
      · have e0 : f j = 0 := by
          obtain ⟨r, hr1, hr2⟩ := hr j ht
          rw [← fr c, hr2, show (0 : Int32) = nI 0 from rfl, nI_leI (by omega) (by omega)] at c2
          rw [hr2, show r = 0 by omega]; rfl
        have := qf e0
        rw [← fr c, e0, Int32.mul_zero, Int32.zero_div, Int32.add_zero]
        exact this
      · rcases hq with z | hq
        · exact absurd z c3
        · rw [if_neg (fun z => z.elim (fun z => c3 (hA0.mp z)) (fp c c2))] at hq
          unfold sh_a at hq
          rw [if_pos c4, fr c] at hq
          exact hq
      · rcases hq with z | hq
        · exact absurd z c3
        · rw [if_neg (fun z => z.elim (fun z => c3 (hA0.mp z)) (fp c c2))] at hq
          unfold sh_a at hq
          rw [if_neg c4, fr c] at hq
          exact hq
    | succ k ih =>
      intro j x y hj hq
      have c0 : ¬ nI t ≤ nI j := by rw [nI_leI (by omega) (by omega)]; omega
      have fj := hf j (by omega)
      have hq' : w_sum f n 0 0 = 0 ∨ Q (some (.int (if w_sum f n 0 0 ≤ 0 ∨ f t = 0 then 0 else if x ≤ sh_a f k (j + 1) (if f j ≤ 0 then y else y + 1) then q * f t / w_sum f n 0 0 + 0 else q * f t / w_sum f n 0 0 + 1))) (am_hh X S L) := hq
      refine wl_mshare3 (fun c => absurd c c0) (fun c => absurd c c0) (fun c => absurd c c0) (fun c => absurd c c0) (fun _ => by omega) (fun _ _ => by omega) (fun c => absurd c c0) (fun c => absurd c c0) (fun c => absurd c c0) (fun c => absurd c c0) (fun c => absurd c c0) (fun c => absurd c c0) (fun c => absurd c c0) (fun c => absurd c c0) (fun _ c => ?_) (fun _ c c2 => ?_) (fun _ c c2 => ?_)
      · rw [fj, if_neg c, if_pos (show (0 : Int32) ≤ 0 by decide)] at hq'
        rw [Int32.add_zero]
        exact ih (j + 1) x y (by omega) hq'
      · rw [fj, if_pos c, if_pos c2] at hq'
        rw [Int32.add_zero]
        exact ih (j + 1) x y (by omega) hq'
      · rw [fj, if_pos c, if_neg c2] at hq'
        exact ih (j + 1) x (y + 1) (by omega) hq'
  have lp2 : ∀ (k j : Nat) (x : Int32), j + k = n → (∀ x', (w_sum f n 0 0 = 0 ∨ x' = sh_o f q (w_sum f n 0 0) k j x) → am_ex (d + 6) 208 121 [some (.ref 285), some (.int (nI t)), some (.int q), some (.int (w_sum f n 0 0)), some (.int x'), some (.int 0), some (.int (nI 0))] [] (am_hh X S L) Q) → am_ex (d + 6) 208 87 [some (.ref 285), some (.int (nI t)), some (.int q), some (.int (w_sum f n 0 0)), some (.int x), some (.int (nI j)), none] [] (am_hh X S L) Q := by
    intro k
    induction k with
    | zero =>
      intro j x hj hq
      have c0 := hge j (by omega)
      exact wl_mshare2 (fun c => absurd c0 c) (fun c => absurd c0 c) (fun c => absurd c0 c) (fun _ => hq x (Or.inr rfl)) (fun c => absurd c0 c) (fun c => absurd c0 c) (fun c => absurd c0 c)
    | succ k ih =>
      intro j x hj hq
      have c0 := hlt j (by omega)
      have fj := hf j (by omega)
      have hq' : ∀ x', (w_sum f n 0 0 = 0 ∨ x' = sh_o f q (w_sum f n 0 0) k (j + 1) (x - q * f j / w_sum f n 0 0)) → _ := hq
      refine wl_mshare2 (fun _ _ => by omega) (fun _ _ _ => by omega) (fun _ c _ => c) (fun c => absurd c c0) (fun _ c => ?_) (fun _ c c2 => ?_) (fun _ c c2 => ?_)
      · exact ih (j + 1) _ (by omega) (fun x' _ => hq x' (Or.inl c))
      · rw [fj, if_pos c2] at hq'
        exact ih (j + 1) _ (by omega) hq'
      · rw [fj, if_neg c2, Int32.mul_zero, Int32.zero_div] at hq'
        exact ih (j + 1) _ (by omega) hq'
  have lp1 : ∀ (k j : Nat) (A : Int32), j + k = n → (w_sum f k j A = w_sum f n 0 0) → am_ex (d + 6) 208 27 [some (.ref 285), some (.int (nI t)), some (.int q), some (.int A), some (.int (nI j)), none, none] [] (am_hh X S L) Q := by
    intro k
    induction k with
    | zero =>
      intro j A hj e
      have c0 := hge j (by omega)
      have e' : A = w_sum f n 0 0 := e
      subst e'
      have go : ∀ x, (w_sum f n 0 0 = 0 ∨ x = q) → am_ex (d + 6) 208 87 [some (.ref 285), some (.int (nI t)), some (.int q), some (.int (w_sum f n 0 0)), some (.int x), some (.int (nI 0)), none] [] (am_hh X S L) Q := by
        intro x hx
        refine lp2 n 0 x (by omega) (fun x' hx' => lp3 t 0 x' 0 (by omega) ?_)
        by_cases z : w_sum f n 0 0 = 0
        · exact Or.inl z
        · refine Or.inr ?_
          rw [hx'.resolve_left z, hx.resolve_left z]
          exact hQ
      exact wl_mshare1 (fun c => absurd c0 c) (fun c => absurd c0 c) (fun _ _ => go q (Or.inr rfl)) (fun _ c => go 0 (Or.inl c)) (fun c => absurd c0 c) (fun c => absurd c0 c)
    | succ k ih =>
      intro j A hj e
      have c0 := hlt j (by omega)
      have fj := hf j (by omega)
      have e' : w_sum f k (j + 1) (A + f j) = w_sum f n 0 0 := e
      refine wl_mshare1 (fun _ => by omega) (fun _ _ => by omega) (fun c => absurd c c0) (fun c => absurd c c0) (fun _ c => ?_) (fun _ c => ?_)
      · rw [fj, if_neg c] at e'
        exact ih (j + 1) _ (by omega) e'
      · rw [fj, if_pos c] at e'
        exact ih (j + 1) _ (by omega) e'
  exact lp1 n 0 0 (by omega) rfl
theorem bo_share (J : JJ S) (p q : Int32) : BO X 104 208 [.int p, .int q] S L := by
  have J0 := J
  obtain ⟨g, n, m, k, jR, jT, jF, jW, jK, jA, jI, jP, jQ, jC⟩ := J
  by_cases hg : g_k_share S p q
  · have hgm : g_m_share S p q := ⟨(gp_iff jW p).mp hg.1, not_or.mp hg.2⟩
    obtain ⟨j, hj, rfl⟩ := gp_j jW hg.1
    obtain ⟨hn1, hR, hG⟩ := JW_y jW (Or.inl hj)
    have hn := JW_n jW
    have hr : ∀ i, i < n → ∃ r, r ≤ 99 ∧ ro (S 25) (S 27) i = nI r := fun i hi => by
      unfold ro
      by_cases e : S 25 i = 2
      · rw [if_pos e]; exact hG.2.1 i hi
      · rw [if_neg e]; exact ⟨0, by omega, rfl⟩
    have hf : ∀ i, i < n → ro (S 25) (S 27) i = if S 293 (15 + i) = 2 then S 293 (27 + i) else 0 := fun i hi => by
      obtain ⟨h1, h2, -⟩ := hR.2.2.2.2.2.2.2.1 i hi
      rw [h1, h2]
      rfl
    exact bo_ro (v := .int (sh_r (ro (S 25) (S 27)) q n j)) J0 (wv_k_share (d := 33) (fun Q hq => kt_share hn.1 hn.2.2 hj hq) hg am_is_i) (wv_m_share (d := 33) hgm (m_share (d := 33) (ro (S 25) (S 27)) hf hr hn.2.1 hn.2.2 hj am_is_i))
  · have hgm : ¬ g_m_share S p q := fun z => hg ⟨(gp_iff jW p).mpr z.1, not_or.mpr z.2⟩
    refine bo_ro (v := .int (-1000001)) J0 (wg_k_share (d := 33) hg ⟨?_, rfl⟩) (wg_m_share (d := 33) hgm ⟨?_, rfl⟩)
    · unfold eg_k_share
      unfold g_k_share at hg
      split
      · split
        · rfl
        · rename_i a b; exact absurd ⟨a, b⟩ hg
      · rfl
    · unfold eg_m_share
      unfold g_m_share at hgm
      split
      · split
        · rename_i a b; exact absurd ⟨a, b⟩ hgm
        · rfl
      · rfl
end SHARE2
