theorem am_u_at (W : Nat → Nat → Int32) (k i : Nat) (v : Int32) (k' i' : Nat) : am_u W k i v k' i' = if k' = k ∧ i' = i then v else W k' i' := by
  unfold am_u upd
  by_cases h : k' = k
  · subst h
    by_cases h2 : i' = i
    · rw [if_pos rfl, if_pos h2, if_pos ⟨rfl, h2⟩]
    · rw [if_pos rfl, if_neg h2, if_neg (fun z => h2 z.2)]
  · rw [if_neg h, if_neg (fun z => h z.1)]
section SAME2
variable {W S : Nat → Nat → Int32} {s g n : Nat}
/-- nobody sits there -/
theorem w_pi_no {q : Int32} : ∀ {k j : Nat}, (∀ i, j ≤ i → i < j + k → ¬ (W 5 i = 1 ∧ W 6 i = q)) → w_pi W q k j = none
  | 0, _, _ => rfl
  | k + 1, j, h => by
    unfold w_pi
    rw [if_neg (h j (Nat.le_refl _) (by omega))]
    exact w_pi_no (fun i h1 h2 => h i (by omega) (by omega))
theorem w_pi_noI {q : Int32} : ∀ {k j : Nat}, w_pi W q k j = none → ∀ i, j ≤ i → i < j + k → ¬ (W 5 i = 1 ∧ W 6 i = q)
  | 0, _, _, i, h1, h2 => by omega
  | k + 1, j, h, i, h1, h2 => by
    unfold w_pi at h
    by_cases e : W 5 j = 1 ∧ W 6 j = q
    · rw [if_pos e] at h; cases h
    · rw [if_neg e] at h
      by_cases e2 : i = j
      · rw [e2]; exact e
      · exact w_pi_noI h i (by omega) (by omega)
/-- i gets off -/
theorem mR_off (hs : am_isT s) (h : mR W S s g n) {i : Nat} (hi : i < n) : mR (am_u W 5 i 2) (am_u (am_u S s (15 + i) 2) s (21 + i) (-1000000)) s g n := by
  obtain ⟨⟨a1, a2, a3⟩, ⟨b1, b2, b3, b4⟩, ⟨b, c1, c2, c3⟩, d1, d2, d3, e1, e2, e3, e4, e5, e6⟩ := h
  have hne : (285 : Nat) ≠ s ∧ (290 : Nat) ≠ s ∧ (291 : Nat) ≠ s ∧ (292 : Nat) ≠ s := by rcases hs with rfl | rfl <;> decide
  simp only [mR, am_u_at]
  refine ⟨⟨by simpa using a1, by simpa [hne.1] using a2, a3⟩, ⟨by simpa using b1, by simpa [hne.1] using b2, b3, b4⟩, ⟨b, c1, by simpa using c2, ?_⟩, ?_, ?_, fun j hj => ?_, fun p hp => ?_, fun p hp => ?_, fun p hp => ?_, fun p hp hq => ?_, fun p q hp hq h1 h2 h3 => ?_, fun p hp => ?_⟩
  · rw [if_neg (by omega), if_neg (by omega)]; exact c3
  · rw [if_neg (by omega), if_neg (by omega)]; simpa using d1
  · rw [if_neg (by omega), if_neg (by omega)]; simpa using d2
  · rw [if_neg (by omega), if_neg (by omega)]; simpa using d3 j hj
  · simpa [hne] using e1 p hp
  · by_cases e : p = i
    · subst e
      have := e2 p hp
      refine ⟨by simp, ?_, ?_⟩
      · rw [if_neg (by omega), if_neg (by omega)]; simpa using this.2.1
      · rw [if_neg (by omega), if_neg (by omega)]; simpa using this.2.2
    · have := e2 p hp
      refine ⟨?_, ?_, ?_⟩
      · rw [if_neg (by omega), if_neg (by omega), if_neg (fun z => e z.2)]; exact this.1
      · rw [if_neg (by omega), if_neg (by omega)]; simpa using this.2.1
      · rw [if_neg (by omega), if_neg (by omega)]; simpa using this.2.2
  · by_cases e : p = i
    · subst e
      simp
    · rw [if_neg (by omega), if_neg (by omega)]
      simpa [e] using e3 p hp
  · by_cases e : p = i
    · subst e; simp at hq
    · rw [if_neg (fun z => e z.2)] at hq
      simpa using e4 p hp hq
  · by_cases e : p = i
    · subst e; simp at h1
    · by_cases e' : q = i
      · subst e'; simp at h2
      · rw [if_neg (fun z => e z.2)] at h1
        rw [if_neg (fun z => e' z.2)] at h2
        exact e5 p q hp hq h1 h2 (by simpa using h3)
  · by_cases e : p = i
    · subst e; simp
    · rw [if_neg (fun z => e z.2)]; exact e6 p hp
/-- j gets in -/
theorem mR_in (hs : am_isT s) (h : mR W S s g n) {j : Nat} (hj : j < n) (hno : w_pi W (W 0 2) n 0 = none) (hw : W 5 j = 0) : mR (w_bd W j) (m_bd S s j) s g n := by
  have hfree := w_pi_noI hno
  obtain ⟨⟨a1, a2, a3⟩, ⟨b1, b2, b3, b4⟩, ⟨b, c1, c2, c3⟩, d1, d2, d3, e1, e2, e3, e4, e5, e6⟩ := h
  have hne : (285 : Nat) ≠ s ∧ (290 : Nat) ≠ s ∧ (291 : Nat) ≠ s ∧ (292 : Nat) ≠ s := by rcases hs with rfl | rfl <;> decide
  rw [c2] at hfree
  simp only [mR, w_bd, m_bd, am_u_at]
  refine ⟨⟨by simpa using a1, by simpa [hne.1] using a2, a3⟩, ⟨by simpa using b1, by simpa [hne.1] using b2, b3, b4⟩, ⟨b, c1, by simpa using c2, ?_⟩, ?_, ?_, fun i hi => ?_, fun p hp => ?_, fun p hp => ?_, fun p hp => ?_, fun p hp hq => ?_, fun p q hp hq h1 h2 h3 => ?_, fun p hp => ?_⟩
  · rw [if_neg (by omega), if_neg (by omega), if_neg (by omega)]; exact c3
  · rw [if_neg (by omega), if_neg (by omega), if_neg (by omega)]; simpa using d1
  · rw [if_neg (by omega), if_neg (by omega), if_neg (by omega)]; simpa using d2
  · rw [if_neg (by omega), if_neg (by omega), if_neg (by omega)]; simpa using d3 i hi
  · simpa [hne] using e1 p hp
  · have := e2 p hp
    by_cases e : p = j
    · subst e
      refine ⟨?_, ?_, ?_⟩
      · rw [if_neg (by omega), if_neg (by omega), if_pos ⟨trivial, rfl⟩]; simp
      · rw [if_pos ⟨trivial, rfl⟩]; simp
      · rw [if_neg (by omega), if_neg (by omega), if_neg (by omega)]; simpa using this.2.2
    · refine ⟨?_, ?_, ?_⟩
      · rw [if_neg (by omega), if_neg (by omega), if_neg (by omega)]; simpa [e] using this.1
      · rw [if_neg (by omega), if_neg (by omega), if_neg (by omega)]; simpa [e] using this.2.1
      · rw [if_neg (by omega), if_neg (by omega), if_neg (by omega)]; simpa [e] using this.2.2
  · by_cases e : p = j
    · subst e
      rw [if_neg (by omega), if_pos ⟨trivial, rfl⟩]
      simp [c2, c3]
    · rw [if_neg (by omega), if_neg (by omega), if_neg (by omega)]
      simpa [e] using e3 p hp
  · by_cases e : p = j
    · subst e
      exact ⟨b, c1, by simp [c2]⟩
    · simp [e] at hq
      obtain ⟨q, h1, h2⟩ := e4 p hp hq
      exact ⟨q, h1, by simpa [e] using h2⟩
  · by_cases e : p = j
    · by_cases e' : q = j
      · omega
      · exfalso
        subst e
        simp [e'] at h2 h3
        exact hfree q (by omega) (by omega) ⟨h2, by rw [← h3, c2]⟩
    · by_cases e' : q = j
      · exfalso
        subst e'
        simp [e] at h1 h3
        exact hfree p (by omega) (by omega) ⟨h1, by rw [h3, c2]⟩
      · simp [e] at h1
        simp [e'] at h2
        simp [e, e'] at h3
        exact e5 p q hp hq h1 h2 h3
  · by_cases e : p = j
    · subst e; simp
    · simpa [e] using e6 p hp
end SAME2
