/-- the orders of the two -/
def rkR (rk : Nat → Int32) (S : Nat → Nat → Int32) (n : Nat) : Prop := (∀ i, i < n → ∃ r, r < n ∧ rk i = nI r ∧ S 297 i = nI r) ∧ ∀ i, n ≤ i → i < 6 → ∃ r, n ≤ r ∧ r < 6 ∧ rk i = nI r
section SAME3
variable {W S : Nat → Nat → Int32} {s g n : Nat} {rk : Nat → Int32}
theorem mR_lo (hs : am_isT s) (h : mR W S s g n) : mR (w_lo W g n) (m_s1 S s g n).1 s g n ∧ (((m_s1 S s g n).2 < 0 ∧ w_pi (w_lo W g n) (w_lo W g n 0 2) n 0 = none) ∨ (0 ≤ (m_s1 S s g n).2 ∧ ∃ i, w_pi (w_lo W g n) (w_lo W g n 0 2) n 0 = some i)) := by
  obtain ⟨b, hb, e1, e2⟩ := h.2.2.1
  have hp := mR_pin h hb
  rw [w_lo_0, e1]
  unfold m_s1 w_lo
  rw [e2, e1]
  cases hw : w_pi W (nI b) n 0 with
  | none =>
    rw [hw] at hp
    dsimp only at hp ⊢
    rw [hp, if_pos (by decide)]
    exact ⟨h, Or.inl ⟨show (-1 : Int32) < 0 by decide, hw⟩⟩
  | some i =>
    rw [hw] at hp
    dsimp only at hp ⊢
    obtain ⟨-, hi, hi1, hi2⟩ := w_pi_lt W (nI b) n 0 i hw
    have hin : i < n := by omega
    have hn6 := h.1.2.2
    rw [hp, if_neg (nI_pos (by omega)), nI_clamp (by omega), ← mR_dn h hin]
    by_cases hd : w_dn W g n i = true
    · rw [if_pos hd, if_pos hd]
      refine ⟨mR_off hs h hin, Or.inl ⟨show (-1 : Int32) < 0 by decide, ?_⟩⟩
      apply w_pi_no
      intro p hp1 hp2 hq
      rw [am_u_at, am_u_at] at hq
      by_cases e : p = i
      · subst e; simp at hq
      · rw [if_neg (fun z => e z.2), if_neg (fun z => absurd z.1 (by decide))] at hq
        exact e (h.2.2.2.2.2.2.2.2.2.2.1 p i (by omega) hin hq.1 hi1 (hq.2.trans hi2.symm))
    · rw [if_neg hd, if_neg hd]
      exact ⟨h, Or.inr ⟨nI_pos' (by omega), i, hw⟩⟩
theorem w_nx_no (hn : W 0 4 = nI n) (hr : rkR rk S n) : ∀ (k j : Nat), n ≤ j → j + k ≤ 6 → w_nx W rk k j = none
  | 0, _, _, _ => rfl
  | k + 1, j, h1, h2 => by
    obtain ⟨r, r1, r2, e⟩ := hr.2 j h1 (by omega)
    unfold w_nx
    rw [if_neg (fun z => z.1.2 (by rw [hn, e]; exact nI_le r1 (by omega)))]
    exact w_nx_no hn hr k (j + 1) (by omega) (by omega)
theorem nx_rel (h : mR W S s g n) (hr : rkR rk S n) : ∀ (k j : Nat), j + k = n → (m_nx S s k j = -1 ∧ w_nx W rk (k + (6 - n)) j = none) ∨ ∃ r, r < n ∧ m_nx S s k j = nI r ∧ w_nx W rk (k + (6 - n)) j = some r ∧ W 5 r = 0
  | 0, j, hj => by
    have hn6 := h.1.2.2
    refine Or.inl ⟨rfl, ?_⟩
    rw [Nat.zero_add]
    exact w_nx_no h.1.1 hr (6 - n) j (by omega) (by omega)
  | k + 1, j, hj => by
    have hn6 := h.1.2.2
    obtain ⟨r, r1, e1, e2⟩ := hr.1 j (by omega)
    have hh := (h.2.2.2.2.2.2.2.1 r r1).1
    rw [show k + 1 + (6 - n) = (k + (6 - n)) + 1 by omega]
    unfold m_nx w_nx
    rw [e1, e2, nI_clamp (by omega), hh]
    by_cases e : W 5 r = 0
    · rw [if_pos e, if_pos ⟨⟨nI_pos (by omega), by rw [h.1.1]; exact nI_ge r1 (by omega)⟩, e⟩]
      exact Or.inr ⟨r, r1, rfl, rfl, e⟩
    · rw [if_neg e, if_neg (fun z => e z.2)]
      exact nx_rel h hr k (j + 1) (by omega)
theorem mR_li (hs : am_isT s) (h : mR W S s g n) (hr : rkR rk S n) {one : Int32} (ho : (one < 0 ∧ w_pi W (W 0 2) n 0 = none) ∨ (0 ≤ one ∧ ∃ i, w_pi W (W 0 2) n 0 = some i)) : mR (w_li W rk n) (m_s2 S s n one) s g n := by
  have hn6 := h.1.2.2
  unfold w_li m_s2
  rcases ho with ⟨o1, o2⟩ | ⟨o1, i, o2⟩
  · rw [o2, if_neg (fun z => absurd o1 (by simpa using z))]
    dsimp only
    have hx := nx_rel h hr n 0 (by omega)
    rw [show n + (6 - n) = 6 by omega] at hx
    rcases hx with ⟨x1, x2⟩ | ⟨r, r1, x1, x2, x3⟩
    · rw [x1, x2, if_pos (by decide)]
      exact h
    · rw [x1, x2, if_neg (nI_pos (by omega)), nI_clamp (by omega)]
      exact mR_in hs h r1 o2 x3
  · rw [o2, if_pos o1]
    exact h
theorem mR_w1 (hs : am_isT s) (h : mR W S s g n) {j : Nat} (hj : j < n) : mR (w_w1 W j) (m_l1 S s j) s g n := by
  have h0 := h
  obtain ⟨⟨a1, a2, a3⟩, ⟨b1, b2, b3, b4⟩, ⟨b, c1, c2, c3⟩, d1, d2, d3, e1, e2, e3, e4, e5, e6⟩ := h
  have hne : (285 : Nat) ≠ s ∧ (290 : Nat) ≠ s ∧ (291 : Nat) ≠ s ∧ (292 : Nat) ≠ s := by rcases hs with rfl | rfl <;> decide
  have hj2 := e2 j hj
  have hk := (e1 j hj).1
  unfold w_w1 m_l1
  rw [hj2.1]
  by_cases e : W 5 j = 0
  · rw [if_pos e, if_pos e]
    have hgs : m_gs (am_u S s (33 + j) (S s (33 + j) + 1)) s j = w_lp (am_u W 8 j (W 8 j + 1)) j := by
      unfold m_gs w_lp
      rw [am_u_eq, am_u_eq, am_u_ne _ hne.2.1, am_u_ne _ (show (2 : Nat) ≠ 8 by decide), hk, hj2.2.2]
      by_cases k4 : W 2 j = 4
      · rw [if_pos k4, k4]
        simp [Int32.not_lt]
      · rw [if_neg k4]
        by_cases k5 : W 2 j = 5
        · rw [if_pos k5, k5]
          simp
        · rw [if_neg k5]
          simp [k4, k5]
    rw [hgs]
    have key : ∀ v : Int32, (v = 0 ∨ v = 3) → mR (am_u (am_u W 8 j (W 8 j + 1)) 5 j v) (am_u (am_u S s (33 + j) (S s (33 + j) + 1)) s (15 + j) v) s g n := by
      intro v hv
      have hv1 : ¬ v = 1 := by rcases hv with rfl | rfl <;> decide
      simp only [mR, am_u_at]
      refine ⟨⟨by simpa using a1, by simpa [hne.1] using a2, a3⟩, ⟨by simpa using b1, by simpa [hne.1] using b2, b3, b4⟩, ⟨b, c1, by simpa using c2, ?_⟩, ?_, ?_, fun i hi => ?_, fun p hp => ?_, fun p hp => ?_, fun p hp => ?_, fun p hp hq => ?_, fun p q hp hq h1 h2 h3 => ?_, fun p hp => ?_⟩
      · rw [if_neg (by omega), if_neg (by omega)]; exact c3
      · rw [if_neg (by omega), if_neg (by omega)]; simpa using d1
      · rw [if_neg (by omega), if_neg (by omega)]; simpa using d2
      · rw [if_neg (by omega), if_neg (by omega)]; simpa using d3 i hi
      · simpa [hne] using e1 p hp
      · have := e2 p hp
        by_cases q : p = j
        · subst q
          refine ⟨by simp, ?_, ?_⟩
          · rw [if_neg (by omega), if_neg (by omega)]; simpa using this.2.1
          · rw [if_neg (by omega), if_pos ⟨trivial, rfl⟩, this.2.2]; simp
        · refine ⟨?_, ?_, ?_⟩
          · rw [if_neg (by omega), if_neg (by omega)]; simpa [q] using this.1
          · rw [if_neg (by omega), if_neg (by omega)]; simpa [q] using this.2.1
          · rw [if_neg (by omega), if_neg (by omega)]; simpa [q] using this.2.2
      · have := e3 p hp
        by_cases q : p = j
        · subst q
          rw [if_neg (by omega), if_neg (by omega), this, e]
          simp [hv1]
        · rw [if_neg (by omega), if_neg (by omega)]; simpa [q] using this
      · by_cases q : p = j
        · subst q; simp [hv1] at hq
        · simp [q] at hq
          simpa using e4 p hp hq
      · by_cases q1 : p = j
        · subst q1; simp [hv1] at h1
        · by_cases q2 : q = j
          · subst q2; simp [hv1] at h2
          · simp [q1] at h1
            simp [q2] at h2
            exact e5 p q hp hq h1 h2 (by simpa using h3)
      · by_cases q : p = j
        · subst q
          rcases hv with rfl | rfl <;> simp
        · simpa [q] using e6 p hp
    by_cases hl : w_lp (am_u W 8 j (W 8 j + 1)) j = true
    · rw [if_pos hl, if_pos hl]
      exact key 3 (Or.inr rfl)
    · rw [if_neg hl, if_neg hl]
      have e9 : am_u W 8 j (W 8 j + 1) = am_u (am_u W 8 j (W 8 j + 1)) 5 j 0 := by
        funext a i
        rw [am_u_at _ 5 j 0 a i]
        by_cases q : a = 5 ∧ i = j
        · rw [if_pos q, am_u_at, q.1, q.2, if_neg (by omega)]
          exact e
        · rw [if_neg q]
      rw [e9]
      exact key 0 (Or.inl rfl)
  · rw [if_neg e, if_neg e]
    exact h0
theorem mR_wt (hs : am_isT s) : ∀ (k j : Nat) {W S : Nat → Nat → Int32}, j + k = n → mR W S s g n → mR (w_wt k j W) (m_ls s k j S) s g n
  | 0, _, _, _, _, h => h
  | k + 1, j, _, _, hj, h => mR_wt hs k (j + 1) (by omega) (mR_w1 hs h (by omega))
end SAME3
