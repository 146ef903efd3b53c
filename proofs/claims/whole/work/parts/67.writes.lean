/-! Single writes to both; what a STEP keeps. -/
section SAME5
variable {W S : Nat → Nat → Int32} {s g n : Nat} {rk : Nat → Int32}
theorem mR_lim (hs : am_isT s) (h : mR W S s g n) {v : Int32} : mR (am_u W 0 1 v) (am_u S s 2 v) s g n := by
  obtain ⟨⟨a1, a2, a3⟩, ⟨g1, b2, b3, b4⟩, ⟨b, c1, c2, c3⟩, d1, d2, d3, e1, e2, e3, e4, e5, e6⟩ := h
  have hne : (285 : Nat) ≠ s ∧ (290 : Nat) ≠ s ∧ (291 : Nat) ≠ s ∧ (292 : Nat) ≠ s := by rcases hs with rfl | rfl <;> decide
  simp only [mR, am_u_at]
  refine ⟨⟨by simpa using a1, by simpa [hne.1] using a2, a3⟩, ⟨by simpa using g1, by simpa [hne.1] using b2, b3, b4⟩, ?_, ?_, ?_, fun i hi => ?_, fun p hp => ?_, fun p hp => ?_, fun p hp => ?_, fun p hp hq => ?_, fun p q hp hq h1 h2 h3 => ?_, fun p hp => ?_⟩
  · exact ⟨b, c1, by simpa using c2, by rw [if_neg (by omega)]; exact c3⟩
  · simp
  · rw [if_neg (by omega)]; simpa using d2
  · rw [if_neg (by omega)]; simpa using d3 i hi
  · simpa [hne] using e1 p hp
  · have := e2 p hp
    refine ⟨?_, ?_, ?_⟩
    · rw [if_neg (by omega)]; simpa using this.1
    · rw [if_neg (by omega)]; simpa using this.2.1
    · rw [if_neg (by omega)]; simpa using this.2.2
  · rw [if_neg (by omega)]; simpa using e3 p hp
  · simpa using e4 p hp (by simpa using hq)
  · exact e5 p q hp hq (by simpa using h1) (by simpa using h2) (by simpa using h3)
  · simpa using e6 p hp

theorem mR_bal (hs : am_isT s) (h : mR W S s g n) {i0 : Nat} (hi0 : i0 < 12) {v : Int32} : mR (am_u W 1 i0 v) (am_u S s (3 + i0) v) s g n := by
  obtain ⟨⟨a1, a2, a3⟩, ⟨g1, b2, b3, b4⟩, ⟨b, c1, c2, c3⟩, d1, d2, d3, e1, e2, e3, e4, e5, e6⟩ := h
  have hne : (285 : Nat) ≠ s ∧ (290 : Nat) ≠ s ∧ (291 : Nat) ≠ s ∧ (292 : Nat) ≠ s := by rcases hs with rfl | rfl <;> decide
  simp only [mR, am_u_at]
  refine ⟨⟨by simpa using a1, by simpa [hne.1] using a2, a3⟩, ⟨by simpa using g1, by simpa [hne.1] using b2, b3, b4⟩, ?_, ?_, ?_, fun i hi => ?_, fun p hp => ?_, fun p hp => ?_, fun p hp => ?_, fun p hp hq => ?_, fun p q hp hq h1 h2 h3 => ?_, fun p hp => ?_⟩
  · exact ⟨b, c1, by simpa using c2, by rw [if_neg (by omega)]; exact c3⟩
  · rw [if_neg (by omega)]; simpa using d1
  · rw [if_neg (by omega)]; simpa using d2
  · have := d3 i hi
    by_cases q : i = i0
    · subst q; simp
    · rw [if_neg (by omega)]; simpa [q] using this
  · simpa [hne] using e1 p hp
  · have := e2 p hp
    refine ⟨?_, ?_, ?_⟩
    · rw [if_neg (by omega)]; simpa using this.1
    · rw [if_neg (by omega)]; simpa using this.2.1
    · rw [if_neg (by omega)]; simpa using this.2.2
  · rw [if_neg (by omega)]; simpa using e3 p hp
  · simpa using e4 p hp (by simpa using hq)
  · exact e5 p q hp hq (by simpa using h1) (by simpa using h2) (by simpa using h3)
  · simpa using e6 p hp

theorem mR_k2 (hs : am_isT s) (h : mR W S s g n) {i0 : Nat} {v : Int32} : mR (am_u W 2 i0 v) (am_u S 290 i0 v) s g n := by
  obtain ⟨⟨a1, a2, a3⟩, ⟨g1, b2, b3, b4⟩, ⟨b, c1, c2, c3⟩, d1, d2, d3, e1, e2, e3, e4, e5, e6⟩ := h
  have hne : (285 : Nat) ≠ s ∧ (290 : Nat) ≠ s ∧ (291 : Nat) ≠ s ∧ (292 : Nat) ≠ s := by rcases hs with rfl | rfl <;> decide
  simp only [mR, am_u_at]
  refine ⟨⟨by simpa using a1, by simpa [hne.1] using a2, a3⟩, ⟨by simpa using g1, by simpa [hne.1] using b2, b3, b4⟩, ?_, ?_, ?_, fun i hi => ?_, fun p hp => ?_, fun p hp => ?_, fun p hp => ?_, fun p hp hq => ?_, fun p q hp hq h1 h2 h3 => ?_, fun p hp => ?_⟩
  · exact ⟨b, c1, by simpa using c2, by rw [if_neg (by omega)]; exact c3⟩
  · rw [if_neg (by omega)]; simpa using d1
  · rw [if_neg (by omega)]; simpa using d2
  · rw [if_neg (by omega)]; simpa using d3 i hi
  · have := e1 p hp
    by_cases q : p = i0
    · subst q; simp [this.1, this.2.1, this.2.2]
    · simpa [q] using this
  · have := e2 p hp
    refine ⟨?_, ?_, ?_⟩
    · rw [if_neg (by omega)]; simpa using this.1
    · rw [if_neg (by omega)]; simpa using this.2.1
    · rw [if_neg (by omega)]; simpa using this.2.2
  · rw [if_neg (by omega)]; simpa using e3 p hp
  · simpa using e4 p hp (by simpa using hq)
  · exact e5 p q hp hq (by simpa using h1) (by simpa using h2) (by simpa using h3)
  · simpa using e6 p hp

theorem mR_k3 (hs : am_isT s) (h : mR W S s g n) {i0 : Nat} {v : Int32} : mR (am_u W 3 i0 v) (am_u S 291 i0 v) s g n := by
  obtain ⟨⟨a1, a2, a3⟩, ⟨g1, b2, b3, b4⟩, ⟨b, c1, c2, c3⟩, d1, d2, d3, e1, e2, e3, e4, e5, e6⟩ := h
  have hne : (285 : Nat) ≠ s ∧ (290 : Nat) ≠ s ∧ (291 : Nat) ≠ s ∧ (292 : Nat) ≠ s := by rcases hs with rfl | rfl <;> decide
  simp only [mR, am_u_at]
  refine ⟨⟨by simpa using a1, by simpa [hne.1] using a2, a3⟩, ⟨by simpa using g1, by simpa [hne.1] using b2, b3, b4⟩, ?_, ?_, ?_, fun i hi => ?_, fun p hp => ?_, fun p hp => ?_, fun p hp => ?_, fun p hp hq => ?_, fun p q hp hq h1 h2 h3 => ?_, fun p hp => ?_⟩
  · exact ⟨b, c1, by simpa using c2, by rw [if_neg (by omega)]; exact c3⟩
  · rw [if_neg (by omega)]; simpa using d1
  · rw [if_neg (by omega)]; simpa using d2
  · rw [if_neg (by omega)]; simpa using d3 i hi
  · have := e1 p hp
    by_cases q : p = i0
    · subst q; simp [this.1, this.2.1, this.2.2]
    · simpa [q] using this
  · have := e2 p hp
    refine ⟨?_, ?_, ?_⟩
    · rw [if_neg (by omega)]; simpa using this.1
    · rw [if_neg (by omega)]; simpa using this.2.1
    · rw [if_neg (by omega)]; simpa using this.2.2
  · rw [if_neg (by omega)]; simpa using e3 p hp
  · simpa using e4 p hp (by simpa using hq)
  · exact e5 p q hp hq (by simpa using h1) (by simpa using h2) (by simpa using h3)
  · simpa using e6 p hp

theorem mR_k4 (hs : am_isT s) (h : mR W S s g n) {i0 : Nat} {v : Int32} : mR (am_u W 4 i0 v) (am_u S 292 i0 v) s g n := by
  obtain ⟨⟨a1, a2, a3⟩, ⟨g1, b2, b3, b4⟩, ⟨b, c1, c2, c3⟩, d1, d2, d3, e1, e2, e3, e4, e5, e6⟩ := h
  have hne : (285 : Nat) ≠ s ∧ (290 : Nat) ≠ s ∧ (291 : Nat) ≠ s ∧ (292 : Nat) ≠ s := by rcases hs with rfl | rfl <;> decide
  simp only [mR, am_u_at]
  refine ⟨⟨by simpa using a1, by simpa [hne.1] using a2, a3⟩, ⟨by simpa using g1, by simpa [hne.1] using b2, b3, b4⟩, ?_, ?_, ?_, fun i hi => ?_, fun p hp => ?_, fun p hp => ?_, fun p hp => ?_, fun p hp hq => ?_, fun p q hp hq h1 h2 h3 => ?_, fun p hp => ?_⟩
  · exact ⟨b, c1, by simpa using c2, by rw [if_neg (by omega)]; exact c3⟩
  · rw [if_neg (by omega)]; simpa using d1
  · rw [if_neg (by omega)]; simpa using d2
  · rw [if_neg (by omega)]; simpa using d3 i hi
  · have := e1 p hp
    by_cases q : p = i0
    · subst q; simp [this.1, this.2.1, this.2.2]
    · simpa [q] using this
  · have := e2 p hp
    refine ⟨?_, ?_, ?_⟩
    · rw [if_neg (by omega)]; simpa using this.1
    · rw [if_neg (by omega)]; simpa using this.2.1
    · rw [if_neg (by omega)]; simpa using this.2.2
  · rw [if_neg (by omega)]; simpa using e3 p hp
  · simpa using e4 p hp (by simpa using hq)
  · exact e5 p q hp hq (by simpa using h1) (by simpa using h2) (by simpa using h3)
  · simpa using e6 p hp

theorem mR_how (hs : am_isT s) (h : mR W S s g n) {i0 : Nat} (hi0 : i0 < n) {v : Int32} (hv : v = 0 ∨ v = 2 ∨ v = 3) (hw : ¬ W 5 i0 = 1) : mR (am_u W 5 i0 v) (am_u S s (15 + i0) v) s g n := by
  obtain ⟨⟨a1, a2, a3⟩, ⟨g1, b2, b3, b4⟩, ⟨b, c1, c2, c3⟩, d1, d2, d3, e1, e2, e3, e4, e5, e6⟩ := h
  have hne : (285 : Nat) ≠ s ∧ (290 : Nat) ≠ s ∧ (291 : Nat) ≠ s ∧ (292 : Nat) ≠ s := by rcases hs with rfl | rfl <;> decide
  simp only [mR, am_u_at]
  refine ⟨⟨by simpa using a1, by simpa [hne.1] using a2, a3⟩, ⟨by simpa using g1, by simpa [hne.1] using b2, b3, b4⟩, ?_, ?_, ?_, fun i hi => ?_, fun p hp => ?_, fun p hp => ?_, fun p hp => ?_, fun p hp hq => ?_, fun p q hp hq h1 h2 h3 => ?_, fun p hp => ?_⟩
  · exact ⟨b, c1, by simpa using c2, by rw [if_neg (by omega)]; exact c3⟩
  · rw [if_neg (by omega)]; simpa using d1
  · rw [if_neg (by omega)]; simpa using d2
  · rw [if_neg (by omega)]; simpa using d3 i hi
  · simpa [hne] using e1 p hp
  · have := e2 p hp
    refine ⟨?_, ?_, ?_⟩
    · by_cases q : p = i0
      · subst q; simp
      · rw [if_neg (by omega)]; simpa [q] using this.1
    · rw [if_neg (by omega)]; simpa using this.2.1
    · rw [if_neg (by omega)]; simpa using this.2.2
  · have := e3 p hp
    rw [if_neg (by omega)]
    by_cases q : p = i0
    · subst q
      have hv1 : ¬ v = 1 := by rcases hv with rfl | rfl | rfl <;> decide
      rw [this, if_neg hw]; simp [hv1]
    · simpa [q] using this
  · have hv1 : ¬ v = 1 := by rcases hv with rfl | rfl | rfl <;> decide
    by_cases q : p = i0
    · subst q; simp [hv1] at hq
    · simp [q] at hq; simpa using e4 p hp hq
  · have hv1 : ¬ v = 1 := by rcases hv with rfl | rfl | rfl <;> decide
    by_cases q1 : p = i0
    · subst q1; simp [hv1] at h1
    · by_cases q2 : q = i0
      · subst q2; simp [hv1] at h2
      · simp [q1] at h1
        simp [q2] at h2
        exact e5 p q hp hq h1 h2 (by simpa using h3)
  · by_cases q : p = i0
    · subst q
      rcases hv with rfl | rfl | rfl <;> simp
    · simpa [q] using e6 p hp

theorem mR_wtd (hs : am_isT s) (h : mR W S s g n) {i0 : Nat} (hi0 : i0 < n) {v : Int32} : mR (am_u W 8 i0 v) (am_u S s (33 + i0) v) s g n := by
  obtain ⟨⟨a1, a2, a3⟩, ⟨g1, b2, b3, b4⟩, ⟨b, c1, c2, c3⟩, d1, d2, d3, e1, e2, e3, e4, e5, e6⟩ := h
  have hne : (285 : Nat) ≠ s ∧ (290 : Nat) ≠ s ∧ (291 : Nat) ≠ s ∧ (292 : Nat) ≠ s := by rcases hs with rfl | rfl <;> decide
  simp only [mR, am_u_at]
  refine ⟨⟨by simpa using a1, by simpa [hne.1] using a2, a3⟩, ⟨by simpa using g1, by simpa [hne.1] using b2, b3, b4⟩, ?_, ?_, ?_, fun i hi => ?_, fun p hp => ?_, fun p hp => ?_, fun p hp => ?_, fun p hp hq => ?_, fun p q hp hq h1 h2 h3 => ?_, fun p hp => ?_⟩
  · exact ⟨b, c1, by simpa using c2, by rw [if_neg (by omega)]; exact c3⟩
  · rw [if_neg (by omega)]; simpa using d1
  · rw [if_neg (by omega)]; simpa using d2
  · rw [if_neg (by omega)]; simpa using d3 i hi
  · simpa [hne] using e1 p hp
  · have := e2 p hp
    refine ⟨?_, ?_, ?_⟩
    · rw [if_neg (by omega)]; simpa using this.1
    · rw [if_neg (by omega)]; simpa using this.2.1
    · by_cases q : p = i0
      · subst q; simp
      · rw [if_neg (by omega)]; simpa [q] using this.2.2
  · rw [if_neg (by omega)]; simpa using e3 p hp
  · simpa using e4 p hp (by simpa using hq)
  · exact e5 p q hp hq (by simpa using h1) (by simpa using h2) (by simpa using h3)
  · simpa using e6 p hp

/-- a party comes again -/
theorem mR_ca (hs : am_isT s) (h : mR W S s g n) {j : Nat} (hj : j < n) (hw : ¬ W 5 j = 1) : mR (w_ca W j) (am_u (am_u (am_u S s (15 + j) 0) s (27 + j) 0) s (33 + j) 0) s g n := mR_wtd hs (mR_rd hs (mR_how hs h hj (Or.inl rfl) hw) hj) hj
end SAME5
section WIND
variable {W : Nat → Nat → Int32} {g n : Nat} {rk : Nat → Int32} {P : (Nat → Nat → Int32) → Prop}
theorem w_nx_lt (hn : W 0 4 = nI n) (hn6 : n ≤ 6) : ∀ (k i j : Nat), w_nx W rk k i = some j → j < n
  | 0, _, _, h => by cases h
  | k + 1, i, j, h => by
    unfold w_nx at h
    by_cases c : (¬ rk i < 0 ∧ ¬ W 0 4 ≤ rk i) ∧ W 5 (rk i).toNatClampNeg = 0
    · rw [if_pos c] at h
      cases h
      rw [hn] at c
      obtain ⟨r, hr, e⟩ := (rng_k (by omega) (rk i)).mp c.1
      rw [e, nI_clamp (by omega)]
      exact hr
    · rw [if_neg c] at h
      exact w_nx_lt hn hn6 k (i + 1) j h
theorem w_wt_ind (h5 : ∀ V i v, P V → i < 6 → P (am_u V 5 i v)) (h8 : ∀ V i v, P V → i < 6 → P (am_u V 8 i v)) : ∀ (k j : Nat) (V : Nat → Nat → Int32), j + k ≤ 6 → P V → P (w_wt k j V)
  | 0, _, _, _, h => h
  | k + 1, j, V, hj, h => by
    unfold w_wt
    refine w_wt_ind h5 h8 k (j + 1) _ (by omega) ?_
    unfold w_w1
    split
    · split
      · exact h5 _ _ _ (h8 _ _ _ h (by omega)) (by omega)
      · exact h8 _ _ _ h (by omega)
    · exact h
theorem w_ms_ind (hf : wF W g n) (h0 : P W) (h5 : ∀ V i v, P V → i < 6 → P (am_u V 5 i v)) (h6 : ∀ V i v, P V → i < 6 → P (am_u V 6 i v)) (h7 : ∀ V i v, P V → i < 6 → (v = 0 ∨ (¬ 99 ≤ V 7 i ∧ v = V 7 i + 1)) → P (am_u V 7 i v)) (h8 : ∀ V i v, P V → i < 6 → P (am_u V 8 i v)) (h2 : ∀ V v, P V → P (am_u V 0 2 v)) (h3 : ∀ V v, P V → P (am_u V 0 3 v)) : P (w_ms W rk g n) := by
  obtain ⟨hn, hn6, -, -⟩ := hf
  have a1 : P (w_lo W g n) := by
    unfold w_lo
    split
    · exact h0
    · rename_i i hi
      have := (w_pi_lt _ _ _ _ _ hi).2.1
      split
      · exact h5 _ _ _ h0 (by omega)
      · exact h0
  have a2 : P (w_li (w_lo W g n) rk n) := by
    unfold w_li
    split
    · exact a1
    · split
      · exact a1
      · rename_i j hj
        have := w_nx_lt (n := n) (by rw [w_lo_0]; exact hn) hn6 6 0 j hj
        unfold w_bd
        exact h7 _ _ _ (h6 _ _ _ (h5 _ _ _ a1 (by omega)) (by omega)) (by omega) (Or.inl rfl)
  have a3 : P (w_m0 W rk g n) := by
    unfold w_m0
    exact h3 _ _ (w_wt_ind h5 h8 n 0 _ (by omega) a2)
  unfold w_ms w_tn
  split
  · unfold w_t1
    split
    · exact h2 _ _ a3
    · rename_i i hi
      have := (w_pi_lt _ _ _ _ _ hi).2.1
      split
      · exact h2 _ _ a3
      · rename_i q
        exact h7 _ _ _ (h2 _ _ a3) (by omega) (Or.inr ⟨q, rfl⟩)
  · exact a3
theorem w_cl_ms (hf : wF W g n) (hc : w_cl W) : w_cl (w_ms W rk g n) := w_ms_ind (P := w_cl) hf hc (fun V i v h hi => w_cl_u h (by exact hi)) (fun V i v h hi => w_cl_u h (by exact hi)) (fun V i v h hi _ => w_cl_u h (by exact hi)) (fun V i v h hi => w_cl_u h (by exact hi)) (fun V v h => w_cl_u h (show 2 < 5 by decide)) (fun V v h => w_cl_u h (show 3 < 5 by decide))
theorem w_ms_c (hf : wF W g n) {c : Nat} (hc : c = 1 ∨ c = 2 ∨ c = 3 ∨ c = 4) : w_ms W rk g n c = W c := w_ms_ind (P := fun V => V c = W c) hf rfl (fun V i v h _ => (am_u_ne V (by omega)).trans h) (fun V i v h _ => (am_u_ne V (by omega)).trans h) (fun V i v h _ _ => (am_u_ne V (by omega)).trans h) (fun V i v h _ => (am_u_ne V (by omega)).trans h) (fun V v h => (am_u_ne V (by omega)).trans h) (fun V v h => (am_u_ne V (by omega)).trans h)
theorem w_ms_01 (hf : wF W g n) : w_ms W rk g n 0 1 = W 0 1 := w_ms_ind (P := fun V => V 0 1 = W 0 1) hf rfl (fun V i v h _ => h) (fun V i v h _ => h) (fun V i v h _ _ => h) (fun V i v h _ => h) (fun V v h => h) (fun V v h => h)
theorem wF_ms (hf : wF W g n) : wF (w_ms W rk g n) g n := by
  have h := w_ms_04 W rk g n
  exact ⟨h.1.trans hf.1, hf.2.1, h.2.trans hf.2.2.1, hf.2.2.2⟩
theorem wG_ms (hf : wF W g n) (hG : wG W n) : wG (w_ms W rk g n) n := by
  refine ⟨by rw [w_ms_c hf (by omega)]; exact hG.1, ?_, by rw [w_ms_c hf (by omega)]; exact hG.2.2⟩
  refine w_ms_ind (P := fun V => ∀ p, p < n → ∃ r, r ≤ 99 ∧ V 7 p = nI r) hf hG.2.1 (fun V i v h _ => h) (fun V i v h _ => h) (fun V i v h hi hv p hp => ?_) (fun V i v h _ => h) (fun V v h => h) (fun V v h => h)
  rw [am_u_at]
  by_cases q : p = i
  · subst q
    rw [if_pos ⟨rfl, rfl⟩]
    rcases hv with rfl | ⟨h9, rfl⟩
    · exact ⟨0, by omega, rfl⟩
    · obtain ⟨r, hr, e⟩ := h p hp
      rw [e] at h9 ⊢
      refine ⟨r + 1, ?_, nI_1 r⟩
      have : ¬ 99 ≤ r := fun z => h9 (nI_le (a := 99) z (by omega))
      omega
  · rw [if_neg (fun z => q z.2)]
    exact h p hp
theorem wF_it (rk : Nat → Int32) : ∀ (k : Nat) (V : Nat → Nat → Int32), wF V g n → wF (w_it rk g n k V) g n
  | 0, _, h => h
  | k + 1, V, h => wF_it rk k _ (wF_ms h)
theorem w_cl_it (rk : Nat → Int32) : ∀ (k : Nat) (V : Nat → Nat → Int32), wF V g n → w_cl V → w_cl (w_it rk g n k V)
  | 0, _, _, h => h
  | k + 1, V, hf, h => w_cl_it rk k _ (wF_ms hf) (w_cl_ms hf h)
end WIND
