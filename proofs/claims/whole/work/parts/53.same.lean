section SAME4
variable {W S : Nat → Nat → Int32} {s g n : Nat} {rk : Nat → Int32}
theorem mR_st (hs : am_isT s) (h : mR W S s g n) {v : Int32} : mR (am_u W 0 3 v) (am_u S s 0 v) s g n := by
  obtain ⟨⟨a1, a2, a3⟩, ⟨g1, b2, b3, b4⟩, ⟨b, c1, c2, c3⟩, d1, d2, d3, e1, e2, e3, e4, e5, e6⟩ := h
  have hne : (285 : Nat) ≠ s ∧ (290 : Nat) ≠ s ∧ (291 : Nat) ≠ s ∧ (292 : Nat) ≠ s := by rcases hs with rfl | rfl <;> decide
  simp only [mR, am_u_at]
  refine ⟨⟨by simpa using a1, by simpa [hne.1] using a2, a3⟩, ⟨by simpa using g1, by simpa [hne.1] using b2, b3, b4⟩, ?_, ?_, ?_, fun i hi => ?_, fun p hp => ?_, fun p hp => ?_, fun p hp => ?_, fun p hp hq => ?_, fun p q hp hq h1 h2 h3 => ?_, fun p hp => ?_⟩
  · exact ⟨b, c1, by simpa using c2, by rw [if_neg (by omega)]; exact c3⟩
  · rw [if_neg (by omega)]; simpa using d1
  · simp
  · rw [if_neg (by omega)]; simpa using d3 i hi
  · simpa [hne] using e1 p hp
  · have := e2 p hp
    refine ⟨?_, ?_, ?_⟩
    · rw [if_neg (by omega)]; simpa using this.1
    · rw [if_neg (by omega)]; simpa using this.2.1
    · rw [if_neg (by omega)]; simpa using this.2.2
  · rw [if_neg (by omega)]; simpa using e3 p hp
  · simpa using e4 p hp (by simpa using hq)
  · exact e5 p q hp hq (by simpa using h1) (by simpa using h2) (by simpa using h3)
  · simpa using e6 p hp

theorem mR_bt (hs : am_isT s) (h : mR W S s g n) {b1 : Nat} (hb : b1 < g) : mR (am_u W 0 2 (nI b1)) (am_u S s 1 (nI b1)) s g n := by
  obtain ⟨⟨a1, a2, a3⟩, ⟨g1, b2, b3, b4⟩, ⟨b, c1, c2, c3⟩, d1, d2, d3, e1, e2, e3, e4, e5, e6⟩ := h
  have hne : (285 : Nat) ≠ s ∧ (290 : Nat) ≠ s ∧ (291 : Nat) ≠ s ∧ (292 : Nat) ≠ s := by rcases hs with rfl | rfl <;> decide
  simp only [mR, am_u_at]
  refine ⟨⟨by simpa using a1, by simpa [hne.1] using a2, a3⟩, ⟨by simpa using g1, by simpa [hne.1] using b2, b3, b4⟩, ?_, ?_, ?_, fun i hi => ?_, fun p hp => ?_, fun p hp => ?_, fun p hp => ?_, fun p hp hq => ?_, fun p q hp hq h1 h2 h3 => ?_, fun p hp => ?_⟩
  · exact ⟨b1, hb, by simp, by simp⟩
  · rw [if_neg (by omega)]; simpa using d1
  · rw [if_neg (by omega)]; simpa using d2
  · rw [if_neg (by omega)]; simpa using d3 i hi
  · simpa [hne] using e1 p hp
  · have := e2 p hp
    refine ⟨?_, ?_, ?_⟩
    · rw [if_neg (by omega)]; simpa using this.1
    · rw [if_neg (by omega)]; simpa using this.2.1
    · rw [if_neg (by omega)]; simpa using this.2.2
  · rw [if_neg (by omega)]; simpa using e3 p hp
  · simpa using e4 p hp (by simpa using hq)
  · exact e5 p q hp hq (by simpa using h1) (by simpa using h2) (by simpa using h3)
  · simpa using e6 p hp

theorem mR_rd (hs : am_isT s) (h : mR W S s g n) {i0 : Nat} (hi0 : i0 < n) {v : Int32} : mR (am_u W 7 i0 v) (am_u S s (27 + i0) v) s g n := by
  obtain ⟨⟨a1, a2, a3⟩, ⟨g1, b2, b3, b4⟩, ⟨b, c1, c2, c3⟩, d1, d2, d3, e1, e2, e3, e4, e5, e6⟩ := h
  have hne : (285 : Nat) ≠ s ∧ (290 : Nat) ≠ s ∧ (291 : Nat) ≠ s ∧ (292 : Nat) ≠ s := by rcases hs with rfl | rfl <;> decide
  simp only [mR, am_u_at]
  refine ⟨⟨by simpa using a1, by simpa [hne.1] using a2, a3⟩, ⟨by simpa using g1, by simpa [hne.1] using b2, b3, b4⟩, ?_, ?_, ?_, fun i hi => ?_, fun p hp => ?_, fun p hp => ?_, fun p hp => ?_, fun p hp hq => ?_, fun p q hp hq h1 h2 h3 => ?_, fun p hp => ?_⟩
  · exact ⟨b, c1, by simpa using c2, by rw [if_neg (by omega)]; exact c3⟩
  · rw [if_neg (by omega)]; simpa using d1
  · rw [if_neg (by omega)]; simpa using d2
  · rw [if_neg (by omega)]; simpa using d3 i hi
  · simpa [hne] using e1 p hp
  · have := e2 p hp
    refine ⟨?_, ?_, ?_⟩
    · rw [if_neg (by omega)]; simpa using this.1
    · by_cases q : p = i0
      · subst q; simp
      · rw [if_neg (by omega)]; simpa [q] using this.2.1
    · rw [if_neg (by omega)]; simpa using this.2.2
  · rw [if_neg (by omega)]; simpa using e3 p hp
  · simpa using e4 p hp (by simpa using hq)
  · exact e5 p q hp hq (by simpa using h1) (by simpa using h2) (by simpa using h3)
  · simpa using e6 p hp

set_option maxRecDepth 100000 in
theorem nb_dec : ((List.range 13).all fun g => (List.range g).all fun b => decide ((if nI g ≤ nI b + 1 then 0 else nI b + 1) = nI ((b + 1) % g) ∧ (nI b + 1) - (nI b + 1) / nI g * nI g = nI ((b + 1) % g))) = true := by decide +kernel
theorem mR_nb (h : mR W S s g n) : ∃ b1, b1 < g ∧ w_nb W = nI b1 ∧ m_to S s = nI b1 := by
  obtain ⟨b, hb, e1, e2⟩ := h.2.2.1
  have hg := h.2.1
  have h1 := List.all_eq_true.mp nb_dec g (List.mem_range.mpr (by omega))
  have h2 := of_decide_eq_true (List.all_eq_true.mp h1 b (List.mem_range.mpr hb))
  refine ⟨(b + 1) % g, Nat.mod_lt _ (by omega), ?_, ?_⟩
  · unfold w_nb
    rw [hg.1, e1]
    exact h2.1
  · unfold m_to
    rw [hg.2.1, e2]
    exact h2.2
theorem mR_t1 (hs : am_isT s) (h : mR W S s g n) : mR (w_t1 W n) (m_s4 S s n) s g n := by
  obtain ⟨b, hb, e1, e2⟩ := h.2.2.1
  have hp := mR_pin h hb
  have hn6 := h.1.2.2
  unfold w_t1 m_s4
  rw [e1, e2]
  cases hw : w_pi W (nI b) n 0 with
  | none =>
    rw [hw] at hp
    dsimp only at hp ⊢
    rw [hp, if_pos (by decide)]
    exact h
  | some i =>
    rw [hw] at hp
    dsimp only at hp ⊢
    have hi : i < n := by have := (w_pi_lt W (nI b) n 0 i hw).2.1; omega
    rw [hp, if_neg (nI_pos (by omega)), nI_clamp (by omega), (h.2.2.2.2.2.2.2.1 i hi).2.1]
    by_cases e : 99 ≤ W 7 i
    · rw [if_pos e, if_pos e]
      exact h
    · rw [if_neg e, if_neg e]
      exact mR_rd hs h hi
/-- a STEP of both -/
theorem mR_step (hs : am_isT s) (h : mR W S s g n) (hr : rkR rk S n) : mR (w_ms W rk g n) (m_step S s g n) s g n ∧ w_mb W rk g n = m_sb S s g n := by
  obtain ⟨h1, h2⟩ := mR_lo hs h
  have hr1 : rkR rk (m_s1 S s g n).1 n := by
    unfold rkR
    rw [m_s1_ne S s g n (isT_ne hs).2.1]
    exact hr
  have h3 := mR_li hs h1 hr1 h2
  have h4 := mR_wt hs n 0 (by omega) h3
  have e3 : m_ls s n 0 (m_s2 (m_s1 S s g n).1 s n (m_s1 S s g n).2) s 0 = w_wt n 0 (w_li (w_lo W g n) rk n) 0 3 := h4.2.2.2.2.1
  have h5 : mR (w_m0 W rk g n) (m_st S s g n) s g n := by
    unfold w_m0 m_st m_s3
    rw [e3]
    exact mR_st hs h4
  obtain ⟨b1, hb1, n1, n2⟩ := mR_nb h5
  have hb : w_mb W rk g n = m_sb S s g n := by
    unfold w_mb w_tb m_sb w_bal m_bal
    rw [n1, n2, mR_lean h5 hb1, h5.2.2.2.1]
  refine ⟨?_, hb⟩
  unfold w_ms w_tn m_step
  have hb' : w_tb (w_m0 W rk g n) g n = m_sb S s g n := hb
  rw [hb']
  by_cases e : m_sb S s g n = true
  · rw [if_pos e, if_pos e, n1, n2]
    exact mR_t1 hs (mR_bt hs h5 hb1)
  · rw [if_neg e, if_neg e]
    exact h5
end SAME4
