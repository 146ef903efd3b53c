section BWHO
variable {X : Nat × (Nat → Int32)} {S : Nat → Nat → Int32} {L : Nat → Int64}
theorem bo_who (J : JJ S) (p q r s t : Int32) : BO X 114 212 [.int p, .int q, .int r, .int s, .int t] S L := by
  have J0 := J
  obtain ⟨g, n, m, k, jR, jT, jF, jW, jK, jA, jI, jP, jQ, jC⟩ := J
  have bad : (¬ (¬ p < 0 ∧ ¬ S 20 4 ≤ p) ∨ (q < 0 ∨ 4 < q) ∨ ¬ (¬ r < 0 ∧ ¬ 8 ≤ r) ∨ (t < 1 ∨ 12 < t)) → BO X 114 212 [.int p, .int q, .int r, .int s, .int t] S L := by
    intro hb
    have hbm : (¬ (¬ p < 0 ∧ ¬ S 285 7 - 1 < p) ∨ ¬ (¬ q < 0 ∧ ¬ 4 < q) ∨ ¬ (¬ r < 0 ∧ ¬ 7 < r) ∨ ¬ (¬ t < 1 ∧ ¬ 12 < t)) := by
      rcases hb with h | h | h | h
      · exact Or.inl (fun z => h ((gp_iff jW p).mpr z))
      · exact Or.inr (Or.inl (fun z => (not_or.mpr z) h))
      · exact Or.inr (Or.inr (Or.inl (fun z => h ((rw_k r).mpr ((rw_m r).mp z)))))
      · exact Or.inr (Or.inr (Or.inr (fun z => (not_or.mpr z) h)))
    have e1 : eg_k_who S p q r s t = (-1000001, S) := by
      unfold eg_k_who
      split
      · split
        · rfl
        · split
          · split
            · rfl
            · rename_i a1 a2 a3 a4
              rcases hb with h | h | h | h
              · exact absurd a1 h
              · exact absurd h a2
              · exact absurd a3 h
              · exact absurd h a4
          · rfl
      · rfl
    have e2 : eg_m_who S p q r s t = (-1000001, S) := by
      unfold eg_m_who
      split
      · split
        · split
          · split
            · rename_i a1 a2 a3 a4
              rcases hbm with h | h | h | h
              · exact absurd a1 h
              · exact absurd a2 h
              · exact absurd a3 h
              · exact absurd a4 h
            · rfl
          · rfl
        · rfl
      · rfl
    refine bo_ro J0 (wg_k_who (d := 30) (fun _ _ c _ => ix_8 ((rw_k r).mp c)) (fun z => ?_) (is_p e1 rfl)) (wg_m_who (d := 30) (fun _ _ c _ => ix_8 ((rw_m r).mp c)) (fun z => ?_) (is_p e2 rfl))
    · unfold g_k_who at z
      rcases hb with h | h | h | h
      · exact h z.1
      · exact z.2.1 h
      · exact h z.2.2.1
      · exact z.2.2.2.1 h
    · unfold g_m_who at z
      rcases hbm with h | h | h | h
      · exact h z.1
      · exact h z.2.1
      · exact h z.2.2.1
      · exact h z.2.2.2.1
  by_cases hp : ¬ p < 0 ∧ ¬ S 20 4 ≤ p
  rotate_left
  · exact bad (Or.inl hp)
  by_cases hq : q < 0 ∨ 4 < q
  · exact bad (Or.inr (Or.inl hq))
  by_cases hr : ¬ r < 0 ∧ ¬ 8 ≤ r
  rotate_left
  · exact bad (Or.inr (Or.inr (Or.inl hr)))
  by_cases ht : t < 1 ∨ 12 < t
  · exact bad (Or.inr (Or.inr (Or.inr ht)))
  clear bad
  have hp2 := (gp_iff jW p).mp hp
  have hq2 := not_or.mp hq
  have hr2 : ¬ r < 0 ∧ ¬ 7 < r := (rw_m r).mpr ((rw_k r).mp hr)
  have ht2 := not_or.mp ht
  obtain ⟨a, ha, rfl⟩ := (rw_k r).mp hr
  obtain ⟨r1, r2, r3⟩ := jR.1 a ha
  have ec : (nI a).toNatClampNeg = a := nI_clamp (by omega)
  by_cases hm : S 17 a = -1
  · have hm2 : ¬ 0 ≤ S 287 a := by rw [← r2, hm]; decide
    have e1 : eg_k_who S p q (nI a) s t = (-1000011, am_u S 5 12 1) := by
      unfold eg_k_who
      rw [if_pos hp, if_neg hq, if_pos hr, if_neg ht, ec, if_pos hm]
    have e2 : eg_m_who (am_u S 5 12 1) p q (nI a) s t = (-1000011, am_u (am_u S 5 12 1) 285 3 1) := by
      unfold eg_m_who
      rw [ec]
      show (if ¬ p < 0 ∧ ¬ S 285 7 - 1 < p then _ else _) = _
      rw [if_pos hp2, if_pos hq2, if_pos hr2, if_pos ht2]
      show (if 0 ≤ S 287 a then _ else _) = _
      rw [if_neg hm2]
    refine bo_find 1 J0 (wg_k_who (d := 30) (fun _ _ c _ => ix_8 ((rw_k _).mp c)) (fun z => z.2.2.2.2.1 (by rw [ec]; exact hm)) (is_p e1 rfl)) (wg_m_who (d := 30) (fun _ _ c _ => ix_8 ((rw_m _).mp c)) (fun z => hm2 ?_) (is_p e2 rfl))
    have := z.2.2.2.2.1
    rw [ec] at this
    exact this
  · obtain ⟨l, hl, el⟩ := r3.resolve_left hm
    have hm2 : 0 ≤ S 287 a := by rw [← r2, el]; exact nI_pos' (by omega)
    by_cases hpl : ¬ s < 0 ∧ ¬ t < 0 ∧ ¬ S 17 a < s ∧ ¬ S 17 a - s < t
    rotate_left
    · have hpl2 : ¬ (¬ s < 0 ∧ ¬ t < 0 ∧ ¬ S 287 a < t ∧ ¬ S 287 a - t < s) := fun z => by
        rw [el, pl_k hl] at hpl
        rw [← r2, el, pl_m hl] at z
        exact hpl z
      have e1 : eg_k_who S p q (nI a) s t = (-1000012, am_u S 5 12 2) := by
        unfold eg_k_who
        rw [if_pos hp, if_neg hq, if_pos hr, if_neg ht, ec, if_neg hm, if_neg hpl]
      have e2 : eg_m_who (am_u S 5 12 2) p q (nI a) s t = (-1000012, am_u (am_u S 5 12 2) 285 3 2) := by
        unfold eg_m_who
        rw [ec]
        show (if ¬ p < 0 ∧ ¬ S 285 7 - 1 < p then _ else _) = _
        rw [if_pos hp2, if_pos hq2, if_pos hr2, if_pos ht2]
        show (if 0 ≤ S 287 a then (if ¬ s < 0 ∧ ¬ t < 0 ∧ ¬ S 287 a < t ∧ ¬ S 287 a - t < s then _ else _) else _) = _
        rw [if_pos hm2, if_neg hpl2]
      refine bo_find 2 J0 (wg_k_who (d := 30) (fun _ _ c _ => ix_8 ((rw_k _).mp c)) (fun z => hpl ?_) (is_p e1 rfl)) (wg_m_who (d := 30) (fun _ _ c _ => ix_8 ((rw_m _).mp c)) (fun z => hpl2 ?_) (is_p e2 rfl))
      · have := z.2.2.2.2.2
        rw [ec] at this
        exact this
      · have := z.2.2.2.2.2
        rw [ec] at this
        exact this
    · have hpl2 : ¬ s < 0 ∧ ¬ t < 0 ∧ ¬ S 287 a < t ∧ ¬ S 287 a - t < s := by
        have z := hpl
        rw [el, pl_k hl] at z
        rw [← r2, el, pl_m hl]
        exact z
      have z := hpl
      rw [el, pl_k hl] at z
      obtain ⟨f, N, hfN, rfl, rfl⟩ := z
      obtain ⟨j, hj, rfl⟩ := gp_j jW hp
      obtain ⟨hn1, hR, hG⟩ := JW_y jW (Or.inl hj)
      have hn6 := hR.1.2.2
      have hf := JW_wF jW
      have hN1 : 1 ≤ N := by
        by_cases e : N = 0
        · subst e; exact absurd (Or.inl (by decide)) ht
        · omega
      have hfin : ∀ {W7 S7 : Nat → Nat → Int32}, w_cl W7 → F8 (am_u (am_ovl (am_u S 5 12 0) 29 W7) 285 3 0) S7 → JJ S7 := by
        intro W7 S7 h7 h8
        refine JJ_scr (JJ_f J0 0) ⟨fun b hb => ?_, ?_, ?_, ?_⟩
        · unfold scr at hb
          rw [h8 b (by omega)]
          unfold am_u
          rw [am_ovl_ne _ _ (by omega), am_ovl_ne _ _ (by omega)]
        · rw [h8 277 (by omega)]; rfl
        · rw [h8 277 (by omega)]; rfl
        · rw [am_sub_c (S' := S7) (S := am_ovl (am_u S 5 12 0) 29 W7) (fun b h1 h2 => by rw [h8 b (by omega), am_u_ne _ (by omega)]), am_sub_s _ h7]
          exact h7
      have fr : ∀ (W7 : Nat → Nat → Int32) (b : Nat), ¬ (29 ≤ b ∧ b < 38) → b ≠ 5 → (am_ovl (am_u S 5 12 0) 29 W7) b = S b := fun W7 b h1 h2 => by
        rw [am_ovl_ne _ _ (by omega), am_u_ne _ h2]
      have hRm : ∀ W7, mR (am_sub S 20) (am_u (am_ovl (am_u S 5 12 0) 29 W7) 285 3 0) 293 g n := fun W7 => by
        refine mR_c hR ?_ ?_ (fun i _ => ?_) (fun i _ => ?_) (fun i _ => ?_) (fun i _ => ?_)
        · rw [am_u_ni _ (by omega), fr W7 285 (by omega) (by omega)]
        · rw [am_u_ni _ (by omega), fr W7 285 (by omega) (by omega)]
        · rw [am_u_ne _ (by omega), fr W7 293 (by omega) (by omega)]
        · rw [am_u_ne _ (by omega), fr W7 290 (by omega) (by omega)]
        · rw [am_u_ne _ (by omega), fr W7 291 (by omega) (by omega)]
        · rw [am_u_ne _ (by omega), fr W7 292 (by omega) (by omega)]
      have hKm : ∀ W7, JK (am_u (am_ovl (am_u S 5 12 0) 29 W7) 285 3 0) := fun W7 => JK_c jK (by rw [am_u_ne _ (by omega), fr W7 297 (by omega) (by omega)])
      have htm : ∀ (W7 : Nat → Nat → Int32) (i : Nat), i < N → (am_u (am_ovl (am_u S 5 12 0) 29 W7) 285 3 0) 288 (40 * a + f + i) = (fun i => S (8 + 1 * a) (f + i)) i := fun W7 i hi => by
        rw [am_u_ne _ (by omega), fr W7 288 (by omega) (by omega), Nat.add_assoc]
        exact (jR.2 a (f + i) ha (by omega)).symm
      obtain ⟨w, -, hw, rfl⟩ := go_i (a := 0) (b := 4) (by omega) (by omega) hq
      have gk : (¬ (nI j) < 0 ∧ ¬ (S 20 4) ≤ (nI j)) ∧ (¬ (nI a) < 0 ∧ ¬ 8 ≤ (nI a)) ∧ (¬ ((nI N) < 1 ∨ 12 < (nI N))) ∧ ¬ ((S 17 a) = -1) ∧ (¬ (nI f) < 0 ∧ ¬ (nI N) < 0 ∧ ¬ (S 17 a) < (nI f) ∧ ¬ (S 17 a) - (nI f) < (nI N)) := ⟨hp, hr, ht, hm, hpl⟩
      have gm : ∀ W7 : Nat → Nat → Int32, (¬ (nI j) < 0 ∧ ¬ ((am_ovl (am_u S 5 12 0) 29 W7) 285 7) - 1 < (nI j)) ∧ (¬ (nI a) < 0 ∧ ¬ 7 < (nI a)) ∧ (¬ (nI N) < 1 ∧ ¬ 12 < (nI N)) ∧ 0 ≤ ((am_ovl (am_u S 5 12 0) 29 W7) 287 a) ∧ (¬ (nI f) < 0 ∧ ¬ (nI N) < 0 ∧ ¬ ((am_ovl (am_u S 5 12 0) 29 W7) 287 a) < (nI N) ∧ ¬ ((am_ovl (am_u S 5 12 0) 29 W7) 287 a) - (nI N) < (nI f)) := fun W7 => by
        rw [fr W7 285 (by omega) (by omega), fr W7 287 (by omega) (by omega)]
        exact ⟨hp2, hr2, ht2, hm2, hpl2⟩
      clear hq hq2
      match w, hw with
      | 0, _ =>
        unfold BO
        refine wv_k_who0 (d := 30) (t := fun i => S (8 + 1 * a) (f + i)) ha (by omega) (fun _ _ => rfl) hf (jC 29 isW29) (jC 20 isW20) (by omega) gk (fun _ _ _ => ha) ha (fun W7 h7 => ⟨_, _, _, rfl, rfl, ?_⟩)
        refine wv_m_who0 (d := 29) (hRm W7) (hKm W7) ha (by omega) (by omega) (htm W7) (by omega) (gm W7) (fun _ _ _ => ha) (fun S7 h8 => ⟨?_, _, _, rfl, hfin h7 h8⟩)
        rfl
      | 1, _ =>
        unfold BO
        refine wv_k_who1 (d := 30) (t := fun i => S (8 + 1 * a) (f + i)) ha (by omega) (fun _ _ => rfl) hf (jC 29 isW29) (jC 20 isW20) (by omega) gk (fun _ _ _ => ha) ha (fun W7 h7 => ⟨_, _, _, rfl, rfl, ?_⟩)
        refine wv_m_who1 (d := 29) (hRm W7) (hKm W7) ha (by omega) (by omega) (htm W7) (by omega) (gm W7) (fun _ _ _ => ha) (fun S7 h8 => ⟨?_, _, _, rfl, hfin h7 h8⟩)
        rfl
      | 2, _ =>
        unfold BO
        refine wv_k_who2 (d := 30) (t := fun i => S (8 + 1 * a) (f + i)) ha (by omega) (fun _ _ => rfl) hf (jC 29 isW29) (jC 20 isW20) (by omega) gk (fun _ _ _ => ha) ha (fun W7 h7 => ⟨_, _, _, rfl, rfl, ?_⟩)
        refine wv_m_who2 (d := 29) (hRm W7) (hKm W7) ha (by omega) (by omega) (htm W7) (by omega) (gm W7) (fun _ _ _ => ha) (fun S7 h8 => ⟨?_, _, _, rfl, hfin h7 h8⟩)
        rfl
      | 3, _ =>
        unfold BO
        refine wv_k_who3 (d := 30) (t := fun i => S (8 + 1 * a) (f + i)) ha (by omega) (fun _ _ => rfl) hf (jC 29 isW29) (jC 20 isW20) (by omega) gk (fun _ _ _ => ha) ha (fun W7 h7 => ⟨_, _, _, rfl, rfl, ?_⟩)
        refine wv_m_who3 (d := 29) (hRm W7) (hKm W7) ha (by omega) (by omega) (htm W7) (by omega) (gm W7) (fun _ _ _ => ha) (fun S7 h8 => ⟨?_, _, _, rfl, hfin h7 h8⟩)
        rw [show (0 : Int32) = nI 0 from rfl, gc_eq, dc_eq]
      | 4, _ =>
        unfold BO
        refine wv_k_who4 (d := 30) (t := fun i => S (8 + 1 * a) (f + i)) ha (by omega) (fun _ _ => rfl) hf (jC 29 isW29) (jC 20 isW20) (by omega) gk (fun _ _ _ => ha) ha (fun W7 h7 => ⟨_, _, _, rfl, rfl, ?_⟩)
        refine wv_m_who4 (d := 29) (hRm W7) (hKm W7) ha (by omega) (by omega) (htm W7) (by omega) (gm W7) (fun _ _ _ => ha) (fun S7 h8 => ⟨?_, _, _, rfl, hfin h7 h8⟩)
        rw [gl_eq _ 99 1 _ (by omega), dl_eq, if_pos rfl]
      | w + 5, h => exact absurd h (by omega)
end BWHO
