def FN (b : Nat → Int32) (len N : Nat) : Prop := 1 ≤ N ∧ N ≤ 7 ∧ (∀ j, 1 ≤ j → j < N → (pz_st b len j).1 = 0 ∧ (pz_st b len j).2 < len) ∧ (¬ (pz_st b len N).1 = 0 ∨ len ≤ (pz_st b len N).2)
section PZ8
variable {d : Nat} {X : Nat × (Nat → Int32)} {S S0 S1 S2 : Nat → Nat → Int32} {L : Nat → Int64} {b : Nat → Int32} {len p j N : Nat} {s : Int32 × Nat} {Q : Option Value → am_H → Prop} {W : Nat → Nat → Int32}
theorem pz_s7 (hj : ¬ j < 6) : ¬ (pz_st b len (j + 1)).1 = 0 := by
  intro z
  have := (z_sort (z_num (z_sign (z_num (z_sign (show (pz_sign b len 59 (pz_num b len 1 4 (pz_sign b len 44 (pz_num b len 1 9 (pz_sort b len (decide (j < 6)) (pz_st b len j)))))).1 = 0 from z))).1)).1).2.2.1
  exact hj (of_decide_eq_true this)
theorem pz_7 : ¬ (pz_st b len 7).1 = 0 := pz_s7 (j := 6) (by omega)
theorem readInto_lp (hQ : ∀ N S', FN b len N → RI b len S0 S' N → Q (some (.int (pz_st b len N).1)) (am_hh X S' L)) : ∀ r i S, i + r = 6 → RI b len S0 S (i + 1) → (∀ j, 1 ≤ j → j < i + 1 → (pz_st b len j).1 = 0 ∧ (pz_st b len j).2 < len) → am_ex (d + 6) 29 22 [some (.ref 18), some (.ref 29), some (.int (nI i))] [] (am_hh X S L) Q := by
  intro r
  induction r with
  | zero =>
    intro i S hi hR ho
    have e : i = 6 := by omega
    subst e
    have e1 := hR.2.1.1
    refine wl_readInto hR (fun _ => ?_) (fun c => absurd (by decide) c) (fun c => absurd (by decide) c) (fun c => absurd (by decide) c)
    rw [e1]
    exact hQ 7 S ⟨by omega, by omega, ho, Or.inl pz_7⟩ hR
  | succ r ih =>
    intro i S hi hR ho
    obtain ⟨e1, e2, e3, e4, e5, -⟩ := hR.2.1
    have hle : S 18 2 ≤ S 18 3 ↔ len ≤ (pz_st b len (i + 1)).2 := by
      rw [e2, e3, nI_leI (by omega) (by omega)]
    refine wl_readInto hR (fun c => ?_) (fun _ c => ?_) (fun _ c c2 => ?_) (fun _ c c2 S4 hR4 => ?_)
    · rw [show (6 : Int32) = nI 6 from rfl, nI_leI (by omega) (by omega)] at c; omega
    · rw [e1] at c ⊢
      exact hQ (i + 1) S ⟨by omega, by omega, ho, Or.inl c⟩ hR
    · rw [hle] at c2
      rw [e1]
      exact hQ (i + 1) S ⟨by omega, by omega, ho, Or.inr c2⟩ hR
    · rw [hle] at c2
      rw [e1] at c
      refine ih (i + 1) S4 (by omega) hR4 (fun j h1 h2 => ?_)
      by_cases z : j = i + 1
      · subst z; exact ⟨c, by omega⟩
      · exact ho j h1 (by omega)
theorem kt_readInto (hT : TP b len (am_u (am_u S 18 3 0) 18 1 0) (0, 0)) (hc : w_cl (am_sub (am_u (am_u S 18 3 0) 18 1 0) 29)) (hQ : ∀ N S', FN b len N → RI b len (am_u (am_u S 18 3 0) 18 1 0) S' N → Q (some (.int (pz_st b len N).1)) (am_hh X S' L)) : am_mt (d + 6) 29 [.ref 18, .ref 29] (am_hh X S L) Q :=
  wp_readInto hT hc (fun S1 r1 S2 r2 => readInto_lp hQ 6 0 S2 (by omega) r2 (fun j h1 h2 => absurd h2 (by omega)))
theorem readWheel_lp (fn : FN b len N) (hQ : ∀ S', RM b len S0 S' N → Q none (am_hh X S' L)) : ∀ r j S, j + r = N → RM b len S0 S j → am_ex (d + 6) 159 59 [some (.ref 285)] [] (am_hh X S L) Q := by
  obtain ⟨f1, f2, f3, f4⟩ := fn
  intro r
  induction r with
  | zero =>
    intro j S hj hR
    have e : j = N := by omega
    subst e
    have hM := hR.2.1
    obtain ⟨u1, u2, u3, u4, ⟨c, c1, c2, c3⟩, u6, u7⟩ := hM
    have j0 : (pz_st b len j).1 = 0 → ¬ S 285 24 = 0 := fun z => by
      rw [(hR.2.2 z).1]; have := (hR.2.2 z).2.1; exact nI_ne0 (by omega) (by omega)
    have hle : (pz_st b len j).1 = 0 → S 285 5 ≤ S 285 21 := fun z => by
      have ec := c3 z
      rw [u2, c2, nI_leI (by omega) (by omega)]
      rcases f4 with f | f
      · exact absurd z f
      · omega
    refine wl_readWheel hR (fun k _ => ?_) (fun k _ _ => ?_) (fun _ => hQ S hR) (fun k k2 => ?_) (fun _ _ _ => hQ S hR) (fun k _ k2 => ?_)
    · rw [u1] at k; exact k
    · rw [u1] at k; exact k
    · rw [u1] at k; exact absurd k2 (j0 k)
    · rw [u1] at k; exact absurd (hle k) k2
  | succ r ih =>
    intro j S hj hR
    have hM := hR.2.1
    obtain ⟨u1, u2, u3, u4, ⟨c, c1, c2, c3⟩, u6, u7⟩ := hM
    refine wl_readWheel hR (fun k _ => ?_) (fun k _ _ => ?_) (fun k => ?_) (fun k k2 S' hR' => ih (j + 1) S' (by omega) hR') (fun k k2 k3 => ?_) (fun k _ k2 S' hR' => ih (j + 1) S' (by omega) hR')
    · rw [u1] at k; exact k
    · rw [u1] at k; exact k
    · rw [u1] at k
      by_cases e : j = 0
      · subst e
        have e1 := pz_st_n k
        have hN : N = 1 := by
          by_cases z : N = 1
          · exact z
          · have := (f3 1 (by omega) (by omega)).1
            rw [e1] at this
            exact absurd this k
        subst hN
        refine hQ S ⟨hR.1, ?_, fun z => ?_⟩
        · rw [e1]; exact hR.2.1
        · rw [e1] at z; exact absurd z k
      · exact absurd (f3 j (by omega) (by omega)).1 k
    · rw [u1] at k
      have e0 : ¬ j = 0 := fun z => k2 (by rw [(hR.2.2 k).1, z]; rfl)
      have := (f3 j (by omega) (by omega)).2
      have ec := c3 k
      rw [u2, c2, nI_leI (by omega) (by omega)] at k3
      omega
theorem mt_readWheel (hl : S 285 5 = nI len) (hl1 : len ≤ 100) (hb : ∀ i, i < 100 → S 289 i = b i) (fn : FN b len N) (hQ : ∀ S', RM b len S S' N → Q none (am_hh X S' L)) : am_mt (d + 6) 159 [.ref 285] (am_hh X S L) Q := by
  refine wp_mreadLaw (b := b) (len := len) (s := (0, 0)) ⟨?_, ?_, hl1, Nat.zero_le _, ⟨0, Nat.zero_le _, ?_, fun _ => rfl⟩, fun z => absurd rfl z, fun i hi => ?_⟩ ?_
  · rw [am_u_ni _ (by omega), am_u_eq]
  · rw [am_u_ni _ (by omega), am_u_ni _ (by omega), am_u_ni _ (by omega)]; exact hl
  · rw [am_u_ni _ (by omega), am_u_ni _ (by omega), am_u_eq]; rfl
  · rw [am_u_ne _ (by omega), am_u_ne _ (by omega), am_u_ne _ (by omega)]; exact hb i hi
  · intro S1 t1 p1 v2 S2 t2 p2 z2 S3 t3 p3 v4 S4 t4 p4 z4 S5 t5 p5
    refine readWheel_lp fn hQ N 0 S5 (by omega) ⟨?_, p5, fun z => ⟨?_, by omega, ?_, ?_, fun q hq => absurd hq (by omega)⟩⟩
    · exact MH_t (MH_5 (Or.inl rfl)) (MH_t (MH_5 (by omega)) (MH_t (MH_5 (by omega)) (MH_t (MG_H t1) (MH_t (MG_H t2) (MH_t (MH_u (by decide)) (MH_t (MG_H t3) (MH_t (MG_H t4) (MH_t (MH_u (by decide)) (MG_H t5)))))))))
    · rw [t5.2 24 (by omega) (by omega) (by omega), am_u_ne _ (by omega), t4.2 24 (by omega) (by omega) (by omega), t3.2 24 (by omega) (by omega) (by omega), am_u_ne _ (by omega), t2.2 24 (by omega) (by omega) (by omega), t1.2 24 (by omega) (by omega) (by omega), am_u_eq]; rfl
    · have y1 := z_sign (show (pz_sign b len 59 (pz_num b len 1 99 (pz_sign b len 44 (pz_num b len 4 12 (pz_sign b len 119 (0, 0)))))).1 = 0 from z)
      have y3 := z_sign (z_num y1).1
      rw [t5.1 300 (by omega), am_u_ni _ (by omega), t4.1 300 (by omega), t3.1 300 (by omega), am_u_eq]
      exact z2 y3
    · have y1 := z_sign (show (pz_sign b len 59 (pz_num b len 1 99 (pz_sign b len 44 (pz_num b len 4 12 (pz_sign b len 119 (0, 0)))))).1 = 0 from z)
      rw [t5.1 300 (by omega), am_u_eq]
      exact z4 y1
/-- what was read is in its ranges -/
theorem pz_ok (h : (pz_st b len j).1 = 0) : (∃ g, 4 ≤ g ∧ g ≤ 12 ∧ pz_g b len = nI g) ∧ ∀ q, q < j → ∃ k, 1 ≤ k ∧ k ≤ 5 ∧ pz_k b len (pz_st b len q) = nI k := by
  induction j with
  | zero =>
    refine ⟨?_, fun q hq => absurd hq (by omega)⟩
    have y1 := z_sign (show (pz_sign b len 59 (pz_num b len 1 99 (pz_sign b len 44 (pz_num b len 4 12 (pz_sign b len 119 (0, 0)))))).1 = 0 from h)
    have y3 := z_sign (z_num y1).1
    exact go_i (a := 4) (b := 12) (by omega) (by omega) (z_num y3).2
  | succ j ih =>
    have y := z_sort (z_num (z_sign (z_num (z_sign (show (pz_sign b len 59 (pz_num b len 1 4 (pz_sign b len 44 (pz_num b len 1 9 (pz_sort b len (decide (j < 6)) (pz_st b len j)))))).1 = 0 from h))).1)).1
    obtain ⟨i1, i2⟩ := ih y.1
    refine ⟨i1, fun q hq => ?_⟩
    by_cases e : q = j
    · subst e
      have hk := y.2.1
      show ∃ k, 1 ≤ k ∧ k ≤ 5 ∧ pz_kind (pz_by b len (pz_st b len q).2) = nI k
      generalize pz_by b len (pz_st b len q).2 = x at hk ⊢
      unfold pz_kind at hk ⊢
      split
      · exact ⟨5, by omega, by omega, rfl⟩
      · split
        · exact ⟨1, by omega, by omega, rfl⟩
        · split
          · exact ⟨3, by omega, by omega, rfl⟩
          · split
            · exact ⟨2, by omega, by omega, rfl⟩
            · split
              · exact ⟨4, by omega, by omega, rfl⟩
              · rename_i a1 a2 a3 a4 a5
                rw [if_neg a1, if_neg a2, if_neg a3, if_neg a4, if_neg a5] at hk
                exact absurd rfl hk
    · exact i2 q (by omega)
end PZ8
