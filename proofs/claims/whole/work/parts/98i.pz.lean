section PZ4
variable {d : Nat} {X : Nat × (Nat → Int32)} {S S1 S2 : Nat → Nat → Int32} {L : Nat → Int64} {b : Nat → Int32} {len a j : Nat} {x p q : Int32} {s : Int32 × Nat} {Q : Option Value → am_H → Prop}
theorem mt_number (h : MP b len S s) (hQ : ∀ v S', MG S S' → MP b len S' (pz_num b len p q s) → ((pz_num b len p q s).1 = 0 → v = pz_v b len s.2) → Q (some (.int v)) (am_hh X S' L)) : am_mt (d + 3) 163 [.ref 285, .int p, .int q] (am_hh X S L) Q := by
  have h0 := h
  obtain ⟨h1, h2, h3, h4, ⟨c, c1, c2, c3⟩, h6, h7⟩ := h
  have hs := pz_num_le (b := b) p q h4
  have z0 : (1 : Int32) = 0 → False := by decide
  have z2 : (2 : Int32) = 0 → False := by decide
  unfold pz_num at hQ hs
  have rng : ∀ w, w ≤ 100 → ((¬ nI w < 1 ∧ ¬ 2 < nI w) ↔ (w = 1 ∨ w = 2)) := fun w hw => by
    rw [show (1 : Int32) = nI 1 from rfl, show (2 : Int32) = nI 2 from rfl, nI_ltI (by omega) (by omega), nI_ltI (by omega) (by omega)]
    omega
  have one : ∀ w, w ≤ 100 → (nI w = 1 ↔ w = 1) := fun w hw => by
    rw [show (1 : Int32) = nI 1 from rfl, nI_eq (by omega) (by omega)]
  refine wp_number c2 (by omega) h2 h3 h7 (by omega) ?_ ?_ ?_ ?_ ?_ ?_ ?_ ?_ ?_
  · intro w w1 w2 w3 k1 k2 k3
    rw [rng w w1] at k2
    have := (w2 0 (by omega)).1; omega
  · intro w w1 w2 w3 k1 k2 k3
    rw [rng w w1] at k2
    rw [one w w1] at k3
    have := (w2 1 (by omega)).1; omega
  · intro w w1 w2 w3 k1 k2 k3
    rw [rng w w1] at k2
    have := (w2 0 (by omega)).1; omega
  · intro w w1 w2 w3 k1
    rw [h1] at k1
    rw [if_neg k1] at hQ
    exact hQ _ _ MG_r h0 (fun z => absurd z k1)
  · intro w w1 w2 w3 k1 k2 k3 k4
    rw [h1] at k1
    rw [rng w w1] at k2
    rw [one w w1] at k3
    have ec := c3 k1
    subst ec
    have e2 : w = 2 := by omega
    subst e2
    have hn := pz_nw w2 w3
    have ev : 10 * (S 289 s.2 - 48) + S 289 (s.2 + 1) - 48 = pz_v b len s.2 := by
      have := (w2 1 (by omega)).1
      unfold pz_v
      rw [if_neg (by omega), h7 _ (by omega), h7 _ (by omega)]
    rw [ev] at k4 ⊢
    rw [if_pos k1, if_neg (by omega), if_neg (not_or.mpr k4), hn] at hQ hs
    have := MP_a (v := S 285 21 + nI 2) h0 k1 (by rw [c2]; exact nI_add s.2 2) hs
    rw [k1] at this
    exact hQ _ _ this.2 this.1 (fun _ => rfl)
  · intro w w1 w2 w3 k1 k2 k3 k4
    rw [h1] at k1
    rw [rng w w1] at k2
    rw [one w w1] at k3
    have ec := c3 k1
    subst ec
    have e2 : w = 2 := by omega
    subst e2
    have hn := pz_nw w2 w3
    have ev : 10 * (S 289 s.2 - 48) + S 289 (s.2 + 1) - 48 = pz_v b len s.2 := by
      have := (w2 1 (by omega)).1
      unfold pz_v
      rw [if_neg (by omega), h7 _ (by omega), h7 _ (by omega)]
    rw [ev] at k4
    rw [if_pos k1, if_neg (by omega), if_pos (Decidable.not_not.mp (fun z => k4 (not_or.mp z)))] at hQ
    exact hQ _ _ (MP_f h0 k1).2 (MP_f h0 k1).1 (fun z => absurd z z2)
  · intro w w1 w2 w3 k1 k2 k3 k4
    rw [h1] at k1
    rw [one w w1] at k3
    have ec := c3 k1
    subst ec
    subst k3
    have hn := pz_nw w2 w3
    have ev : S 289 s.2 - 48 = pz_v b len s.2 := by
      have := (w2 0 (by omega)).1
      unfold pz_v
      rw [if_pos (by omega), h7 _ (by omega)]
    rw [ev] at k4 ⊢
    rw [if_pos k1, if_neg (by omega), if_neg (not_or.mpr k4), hn] at hQ hs
    have := MP_a (v := S 285 21 + nI 1) h0 k1 (by rw [c2]; exact nI_add s.2 1) hs
    rw [k1] at this
    exact hQ _ _ this.2 this.1 (fun _ => rfl)
  · intro w w1 w2 w3 k1 k2 k3 k4
    rw [h1] at k1
    rw [one w w1] at k3
    have ec := c3 k1
    subst ec
    subst k3
    have hn := pz_nw w2 w3
    have ev : S 289 s.2 - 48 = pz_v b len s.2 := by
      have := (w2 0 (by omega)).1
      unfold pz_v
      rw [if_pos (by omega), h7 _ (by omega)]
    rw [ev] at k4
    rw [if_pos k1, if_neg (by omega), if_pos (Decidable.not_not.mp (fun z => k4 (not_or.mp z)))] at hQ
    exact hQ _ _ (MP_f h0 k1).2 (MP_f h0 k1).1 (fun z => absurd z z2)
  · intro w w1 w2 w3 k1 k2
    rw [h1] at k1
    rw [rng w w1] at k2
    have ec := c3 k1
    subst ec
    have hn := pz_nw w2 w3
    rw [if_pos k1, if_pos (by omega)] at hQ
    exact hQ _ _ (MP_f h0 k1).2 (MP_f h0 k1).1 (fun z => absurd z z0)
end PZ4
