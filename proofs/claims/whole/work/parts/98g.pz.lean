/-- the model's tape at a state of reading -/
def MP (b : Nat → Int32) (len : Nat) (S : Nat → Nat → Int32) (s : Int32 × Nat) : Prop := S 285 23 = s.1 ∧ S 285 5 = nI len ∧ len ≤ 100 ∧ s.2 ≤ len ∧ (∃ c, c ≤ len ∧ S 285 21 = nI c ∧ (s.1 = 0 → c = s.2)) ∧ (¬ s.1 = 0 → S 285 22 = nI s.2) ∧ ∀ i, i < 100 → S 289 i = b i
def MG (S S' : Nat → Nat → Int32) : Prop := (∀ x, x ≠ 285 → S' x = S x) ∧ ∀ i, i ≠ 21 → i ≠ 22 → i ≠ 23 → S' 285 i = S 285 i
section PZ3
variable {d : Nat} {X : Nat × (Nat → Int32)} {S S1 S2 : Nat → Nat → Int32} {L : Nat → Int64} {b : Nat → Int32} {len a j : Nat} {x p q : Int32} {s : Int32 × Nat} {Q : Option Value → am_H → Prop}
theorem TF_r : TF S S := fun _ _ => rfl
theorem TF_t (h : TF S S1) (h' : TF S1 S2) : TF S S2 := fun x hx => (h' x hx).trans (h x hx)
theorem TF_u {i : Nat} {v : Int32} : TF S (am_u S 18 i v) := fun x hx => am_u_ne _ hx
theorem MG_r : MG S S := ⟨fun _ _ => rfl, fun _ _ _ _ => rfl⟩
theorem MG_t (h : MG S S1) (h' : MG S1 S2) : MG S S2 := ⟨fun x hx => (h'.1 x hx).trans (h.1 x hx), fun i h1 h2 h3 => (h'.2 i h1 h2 h3).trans (h.2 i h1 h2 h3)⟩
theorem TP_f (h : TP b len S s) (f : Int32) : TP b len (am_u S 18 1 f) (f, s.2) := by
  obtain ⟨h1, h2, h3, h4, h5, h6⟩ := h
  refine ⟨am_u_eq _ _ _ _, ?_, ?_, h4, h5, fun i hi => ?_⟩
  · rw [am_u_ni _ (by omega)]; exact h2
  · rw [am_u_ni _ (by omega)]; exact h3
  · rw [am_u_ne _ (by omega)]; exact h6 i hi
theorem TP_a (h : TP b len S s) {v : Int32} {a' : Nat} (hv : v = nI a') (ha : a' ≤ len) : TP b len (am_u S 18 3 v) (s.1, a') := by
  obtain ⟨h1, h2, h3, h4, h5, h6⟩ := h
  refine ⟨?_, ?_, ?_, ha, h5, fun i hi => ?_⟩
  · rw [am_u_ni _ (by omega)]; exact h1
  · rw [am_u_ni _ (by omega)]; exact h2
  · rw [am_u_eq, hv]
  · rw [am_u_ne _ (by omega)]; exact h6 i hi
theorem kt_sign (h : TP b len S s) (hp : p ≠ -1) (hQ : ∀ S', TF S S' → TP b len S' (pz_sign b len p s) → Q none (am_hh X S' L)) : am_mt (d + 2) 31 [.ref 18, .int p] (am_hh X S L) Q := by
  have h0 := h
  obtain ⟨h1, h2, h3, h4, h5, h6⟩ := h
  have hs := pz_sign_le (b := b) hp h4
  unfold pz_sign at hQ hs
  refine wp_takeSign h2 h3 h4 h5 h6 (fun c1 c2 => ?_) (fun c1 c2 => ?_) (fun c1 => ?_)
  · rw [h1] at c1
    rw [if_pos c1, if_neg c2] at hQ
    exact hQ _ TF_u (TP_f h0 1)
  · rw [h1] at c1
    rw [if_pos c1, if_pos c2] at hQ hs
    have := TP_a (v := S 18 3 + 1) h0 (by rw [h3, nI_1]) hs
    rw [c1] at this
    exact hQ _ TF_u this
  · rw [h1] at c1
    rw [if_neg c1] at hQ
    exact hQ _ TF_r h0
theorem kt_sort (h : TP b len S s) {r : Bool} (hp : p = bI r) (hQ : ∀ v S', TF S S' → TP b len S' (pz_sort b len r s) → ((pz_sort b len r s).1 = 0 → v = pz_kind (pz_by b len s.2)) → Q (some (.int v)) (am_hh X S' L)) : am_mt (d + 2) 38 [.ref 18, .int p] (am_hh X S L) Q := by
  have h0 := h
  obtain ⟨h1, h2, h3, h4, h5, h6⟩ := h
  have hs := pz_sort_le (b := b) r h4
  unfold pz_sort at hQ hs
  refine wp_takeSort h2 h3 h4 h5 h6 (fun c1 c2 c3 => ?_) (fun c1 c2 c3 => ?_) (fun c1 c2 => ?_) (fun c1 => ?_)
  · rw [h1] at c1
    have hr : r = true := by
      cases r
      · rw [hp] at c3; exact absurd rfl c3
      · rfl
    rw [if_pos c1, if_neg c2, if_pos hr] at hQ hs
    have := TP_a (v := S 18 3 + 1) h0 (by rw [h3, nI_1]) hs
    rw [c1] at this
    exact hQ _ _ TF_u this (fun _ => rfl)
  · rw [h1] at c1
    have hr : ¬ r = true := by
      intro z
      rw [hp, z] at c3; exact absurd c3 (by decide)
    rw [if_pos c1, if_neg c2, if_neg hr] at hQ
    exact hQ _ _ TF_u (TP_f h0 3) (fun _ => rfl)
  · rw [h1] at c1
    rw [if_pos c1, if_pos c2] at hQ
    exact hQ _ _ TF_u (TP_f h0 1) (fun _ => rfl)
  · rw [h1] at c1
    rw [if_neg c1] at hQ
    exact hQ _ _ TF_r h0 (fun z => absurd z c1)
theorem pz_v2 (u w : Int32) : (0 + u - 48) * 10 + w - 48 = 10 * (u - 48) + w - 48 := by
  rw [Int32.zero_add, Int32.mul_comm]
theorem kt_num (h : TP b len S s) (hQ : ∀ v S', TF S S' → TP b len S' (pz_num b len p q s) → ((pz_num b len p q s).1 = 0 → v = pz_v b len s.2) → Q (some (.int v)) (am_hh X S' L)) : am_mt (d + 2) 33 [.ref 18, .int p, .int q] (am_hh X S L) Q := by
  have h0 := h
  obtain ⟨h1, h2, h3, h4, h5, h6⟩ := h
  have hs := pz_num_le (b := b) p q h4
  have z0 : (1 : Int32) = 0 → False := by decide
  have z2 : (2 : Int32) = 0 → False := by decide
  unfold pz_num at hQ hs
  have n0 : ¬ fg b len s.2 → pz_n b len s.2 = 0 := fun c => if_neg c
  have n1 : fg b len s.2 → ¬ fg b len (s.2 + 1) → pz_n b len s.2 = 1 := fun c c' => by
    unfold pz_n; rw [if_pos c, if_neg c']
  have n2 : fg b len s.2 → fg b len (s.2 + 1) → ¬ fg b len (s.2 + 2) → pz_n b len s.2 = 2 := fun c c' c'' => by
    unfold pz_n; rw [if_pos c, if_pos c', if_neg c'']
  have n3 : fg b len s.2 → fg b len (s.2 + 1) → fg b len (s.2 + 2) → pz_n b len s.2 = 3 := fun c c' c'' => by
    unfold pz_n; rw [if_pos c, if_pos c', if_pos c'']
  have e1 : fg b len s.2 → ¬ fg b len (s.2 + 1) → 0 + pz_by b len s.2 - 48 = pz_v b len s.2 := fun c c' => by
    unfold pz_v; rw [if_pos (n1 c c'), pz_by_v c, Int32.zero_add]
  have e2 : fg b len s.2 → fg b len (s.2 + 1) → ¬ fg b len (s.2 + 2) → (0 + pz_by b len s.2 - 48) * 10 + pz_by b len (s.2 + 1) - 48 = pz_v b len s.2 := fun c c' c'' => by
    unfold pz_v; rw [if_neg (by rw [n2 c c' c'']; decide), pz_by_v c, pz_by_v c', pz_v2]
  refine wp_takeNumber h2 h3 h4 h5 h6 (fun c1 c2 => ?_) (fun c1 c2 c3 c4 => ?_) (fun c1 c2 c3 c4 => ?_) (fun c1 c2 c3 c4 c5 => ?_) (fun c1 c2 c3 c4 c5 => ?_) (fun c1 c2 c3 c4 => ?_) (fun c1 => ?_)
  all_goals (rw [h1] at c1)
  · rw [Nat.add_zero, pz_by_fg] at c2
    rw [if_pos c1, if_pos (Or.inl (n0 c2))] at hQ
    exact hQ _ _ TF_u (TP_f h0 1) (fun z => absurd z z0)
  · rw [Nat.add_zero, pz_by_fg] at c2
    rw [pz_by_fg] at c3
    rw [Nat.add_zero, e1 c2 c3] at c4 ⊢
    have hn := n1 c2 c3
    rw [if_pos c1, if_neg (by omega), if_neg c4, hn] at hQ hs
    have := TP_a (v := S 18 3 + 1) h0 (by rw [h3, nI_1]) hs
    rw [c1] at this
    exact hQ _ _ TF_u this (fun _ => rfl)
  · rw [Nat.add_zero, pz_by_fg] at c2
    rw [pz_by_fg] at c3
    rw [Nat.add_zero, e1 c2 c3] at c4 ⊢
    have hn := n1 c2 c3
    rw [if_pos c1, if_neg (by omega), if_pos c4] at hQ
    exact hQ _ _ TF_u (TP_f h0 2) (fun _ => rfl)
  · rw [Nat.add_zero, pz_by_fg] at c2
    rw [pz_by_fg] at c3 c4
    rw [Nat.add_zero, e2 c2 c3 c4] at c5 ⊢
    have hn := n2 c2 c3 c4
    rw [if_pos c1, if_neg (by omega), if_neg c5, hn] at hQ hs
    have := TP_a (v := S 18 3 + 2) h0 (by rw [h3]; exact nI_add s.2 2) hs
    rw [c1] at this
    exact hQ _ _ TF_u this (fun _ => rfl)
  · rw [Nat.add_zero, pz_by_fg] at c2
    rw [pz_by_fg] at c3 c4
    rw [Nat.add_zero, e2 c2 c3 c4] at c5 ⊢
    have hn := n2 c2 c3 c4
    rw [if_pos c1, if_neg (by omega), if_pos c5] at hQ
    exact hQ _ _ TF_u (TP_f h0 2) (fun _ => rfl)
  · rw [Nat.add_zero, pz_by_fg] at c2
    rw [pz_by_fg] at c3 c4
    rw [if_pos c1, if_pos (Or.inr (n3 c2 c3 c4))] at hQ
    exact hQ _ _ TF_u (TP_f h0 1) (fun z => absurd z z0)
  · rw [if_neg c1] at hQ
    exact hQ _ _ TF_r h0 (fun z => absurd z c1)
theorem MP_f (h : MP b len S s) (h0 : s.1 = 0) {f : Int32} : MP b len (am_u (am_u S 285 23 f) 285 22 (S 285 21)) (f, s.2) ∧ MG S (am_u (am_u S 285 23 f) 285 22 (S 285 21)) := by
  obtain ⟨h1, h2, h3, h4, ⟨c, c1, c2, c3⟩, h6, h7⟩ := h
  refine ⟨⟨?_, ?_, h3, h4, ⟨c, c1, ?_, fun _ => c3 h0⟩, fun _ => ?_, fun i hi => ?_⟩, fun x hx => ?_, fun i i1 i2 i3 => ?_⟩
  · rw [am_u_ni _ (by omega), am_u_eq]
  · rw [am_u_ni _ (by omega), am_u_ni _ (by omega)]; exact h2
  · rw [am_u_ni _ (by omega), am_u_ni _ (by omega)]; exact c2
  · rw [am_u_eq, c2, c3 h0]
  · rw [am_u_ne _ (by omega), am_u_ne _ (by omega)]; exact h7 i hi
  · rw [am_u_ne _ hx, am_u_ne _ hx]
  · rw [am_u_ni _ i2, am_u_ni _ i3]
theorem MP_a (h : MP b len S s) (h0 : s.1 = 0) {v : Int32} {a' : Nat} (hv : v = nI a') (ha : a' ≤ len) : MP b len (am_u S 285 21 v) (s.1, a') ∧ MG S (am_u S 285 21 v) := by
  obtain ⟨h1, h2, h3, h4, ⟨c, c1, c2, c3⟩, h6, h7⟩ := h
  refine ⟨⟨?_, ?_, h3, ha, ⟨a', ha, ?_, fun _ => rfl⟩, fun z => absurd h0 z, fun i hi => ?_⟩, fun x hx => am_u_ne _ hx, fun i i1 i2 i3 => am_u_ni _ i1⟩
  · rw [am_u_ni _ (by omega)]; exact h1
  · rw [am_u_ni _ (by omega)]; exact h2
  · rw [am_u_eq, hv]
  · rw [am_u_ne _ (by omega)]; exact h7 i hi
theorem mt_sign (h : MP b len S s) (hp : p ≠ -1) (hQ : ∀ S', MG S S' → MP b len S' (pz_sign b len p s) → Q none (am_hh X S' L)) : am_mt (d + 2) 160 [.ref 285, .int p] (am_hh X S L) Q := by
  have h0 := h
  obtain ⟨h1, h2, h3, h4, ⟨c, c1, c2, c3⟩, h6, h7⟩ := h
  have hs := pz_sign_le (b := b) hp h4
  unfold pz_sign at hQ hs
  refine wp_sign c2 (by omega) h2 h3 h7 (fun k1 => ?_) (fun k1 k2 => ?_) (fun k1 k2 => ?_)
  · rw [h1] at k1
    rw [if_neg k1] at hQ
    exact hQ _ MG_r h0
  · rw [h1] at k1
    rw [c3 k1] at k2
    rw [if_pos k1, if_neg k2] at hQ
    exact hQ _ (MP_f h0 k1).2 (MP_f h0 k1).1
  · rw [h1] at k1
    rw [c3 k1] at k2
    rw [if_pos k1, if_pos k2] at hQ hs
    have := MP_a (v := S 285 21 + 1) h0 k1 (by rw [c2, c3 k1, nI_1]) hs
    rw [k1] at this
    exact hQ _ this.2 this.1
theorem figures_lp (ha : S 285 21 = nI a) (ha1 : a < 2 ^ 31) (hl : S 285 5 = nI len) (hl1 : len ≤ 100) (hb : ∀ i, i < 100 → S 289 i = b i) (hQ : ∀ w, w ≤ 100 → (∀ i, i < w → fg b len (a + i)) → ¬ fg b len (a + w) → Q (some (.int (nI w))) (am_hh X S L)) (ha2 : a ≤ 100) : ∀ r j, a + j + r = 101 → j ≤ 100 → (∀ i, i < j → fg b len (a + i)) → am_ex (d + 2) 164 2 [some (.ref 285), some (.int (nI j))] [] (am_hh X S L) Q := by
  intro r
  induction r with
  | zero =>
    intro j hj hj1 hw
    exfalso
    have := (hw (j - 1) (by omega)).1
    omega
  | succ r ih =>
    intro j hj hj1 hw
    have hle : S 285 5 ≤ S 285 21 + nI j ↔ len ≤ a + j := by
      rw [hl, ha, nI_add, nI_leI (by omega) (by omega)]
    refine wl_figures ha ha1 hl hl1 hb (fun c => ?_) (fun c => ?_) (fun c c2 => ?_) (fun c c2 => ?_)
    · rw [hle] at c; omega
    · rw [hle] at c
      exact hQ j hj1 hw (fun z => by have := z.1; omega)
    · rw [hle] at c
      refine hQ j hj1 hw (fun z => ?_)
      have z2 := z.2
      rw [← hb (a + j) (by omega)] at z2
      exact c2 z2
    · rw [hle] at c
      refine ih (j + 1) (by omega) (by omega) (fun i hi => ?_)
      by_cases e : i = j
      · subst e
        rw [hb (a + i) (by omega)] at c2
        exact ⟨by omega, c2⟩
      · exact hw i (by omega)
theorem mt_figures (ha : S 285 21 = nI a) (ha1 : a < 2 ^ 31) (ha2 : a ≤ 100) (hl : S 285 5 = nI len) (hl1 : len ≤ 100) (hb : ∀ i, i < 100 → S 289 i = b i) (hQ : ∀ w, w ≤ 100 → (∀ i, i < w → fg b len (a + i)) → ¬ fg b len (a + w) → Q (some (.int (nI w))) (am_hh X S L)) : am_mt (d + 2) 164 [.ref 285] (am_hh X S L) Q := wp_figures (figures_lp ha ha1 hl hl1 hb hQ ha2 (101 - a) 0 (by omega) (by omega) (fun i hi => absurd hi (by omega)))
theorem pz_nw {w : Nat} (h1 : ∀ i, i < w → fg b len (a + i)) (h2 : ¬ fg b len (a + w)) : pz_n b len a = min w 3 := by
  unfold pz_n
  by_cases e0 : w = 0
  · subst e0; rw [if_neg (show ¬ fg b len a from h2)]; rfl
  · rw [if_pos (show fg b len a from h1 0 (by omega))]
    by_cases e1 : w = 1
    · subst e1; rw [if_neg h2]; rfl
    · rw [if_pos (h1 1 (by omega))]
      by_cases e2 : w = 2
      · subst e2; rw [if_neg h2]; rfl
      · rw [if_pos (h1 2 (by omega))]; omega
end PZ3
