section BROWS2
variable {X : Nat × (Nat → Int32)} {S S' : Nat → Nat → Int32} {L : Nat → Int64} {g n : Nat}
theorem le3 (q : Int32) : (3 : Int32) ≤ q ↔ 2 < q := by
  rw [Int32.le_iff_toInt_le, Int32.lt_iff_toInt_lt]
  have h1 : (3 : Int32).toInt = 3 := by decide
  have h2 : (2 : Int32).toInt = 2 := by decide
  omega
theorem bo_row (J : JJ S) (p q r : Int32) : BO X 11 148 [.int p, .int q, .int r] S L := by
  have J0 := J
  obtain ⟨g, n, m, k, jR, -⟩ := J
  by_cases hA : (∃ a, a < 8 ∧ p = nI a) ∧ (¬ q < 0 ∧ ¬ 3 ≤ q) ∧ r ≤ 40
  · obtain ⟨hp, ⟨hq0, hq3⟩, hr40⟩ := hA
    have hq2 : ¬ 2 < q := fun z => hq3 ((le3 q).mpr z)
    have hk := (rw_k p).mpr hp
    have hm := (rw_m p).mpr hp
    by_cases hr : 0 ≤ r
    · obtain ⟨a, ha, rfl⟩ := hp
      obtain ⟨c, -, hc, rfl⟩ := (rng_i (a := 0) (b := 40) (by omega) (by omega) r).mp ⟨Int32.not_lt.mpr hr, Int32.not_lt.mpr hr40⟩
      unfold BO
      refine wv_k_row (d := 35) ⟨hk, hq0, hq3, hr40, hr⟩ ha (by omega) (fun S6 z6 f6 => ?_)
      refine ⟨_, _, _, rfl, rfl, ?_⟩
      refine wv_m_row (d := 35) ⟨hm, ⟨hq0, hq2⟩, hr40, hr⟩ ha ?_
      have fin : ∀ S2 : Nat → Nat → Int32, (∀ x, x < 320 → S2 288 x = if 40 * a ≤ x ∧ x < 40 * a + c then 0 else S6 288 x) → (∀ b, b ≠ 288 → S2 b = (am_u (am_u (am_u (am_u S6 5 12 0) 285 3 0) 286 a q) 287 a (nI c)) b) → JJ S2 := by
        intro S2 h288 hb
        have f : ∀ b, b ≠ 8 + 1 * a → b ≠ 16 → b ≠ 17 → S6 b = S b := fun b h1 h2 h3 => by rw [f6 b h1, am_u_ne _ h3, am_u_ne _ h2]
        have hb2 : ∀ b, b ≠ 288 → b ≠ 287 → b ≠ 286 → b ≠ 285 → b ≠ 5 → S2 b = S6 b := fun b h1 h2 h3 h4 h5 => by rw [hb b h1, am_u_ne _ h2, am_u_ne _ h3, am_u_ne _ h4, am_u_ne _ h5]
        refine JJ_rows J0 ⟨fun r hr => ?_, fun r i hr hi => ?_⟩ ?_ ?_ ?_ ?_
        · have hj := jR.1 r hr
          have e16 : S2 16 = am_u S 16 a q 16 := by rw [hb2 16 (by omega) (by omega) (by omega) (by omega) (by omega), f6 16 (by omega), am_u_ne _ (by omega)]
          have e17 : S2 17 = am_u S 17 a (nI c) 17 := by
            rw [hb2 17 (by omega) (by omega) (by omega) (by omega) (by omega), f6 17 (by omega)]
            unfold am_u
            rw [if_pos rfl, if_pos rfl, if_neg (by omega)]
          have e286 : S2 286 = am_u S 286 a q 286 := by
            rw [hb 286 (by omega), am_u_ne _ (by omega)]
            unfold am_u
            rw [if_pos rfl, if_pos rfl, if_neg (by omega), if_neg (by omega), f 286 (by omega) (by omega) (by omega)]
          have e287 : S2 287 = am_u S 287 a (nI c) 287 := by
            rw [hb 287 (by omega)]
            unfold am_u
            rw [if_pos rfl, if_pos rfl, if_neg (by omega), if_neg (by omega), if_neg (by omega), f 287 (by omega) (by omega) (by omega)]
          rw [e16, e17, e286, e287, am_u_at, am_u_at, am_u_at, am_u_at]
          by_cases e : r = a
          · rw [if_pos ⟨rfl, e⟩, if_pos ⟨rfl, e⟩, if_pos ⟨rfl, e⟩, if_pos ⟨rfl, e⟩]
            exact ⟨rfl, rfl, Or.inr ⟨c, hc, rfl⟩⟩
          · rw [if_neg (fun z => e z.2), if_neg (fun z => e z.2), if_neg (fun z => e z.2), if_neg (fun z => e z.2)]
            exact hj
        · rw [hb2 (8 + 1 * r) (by omega) (by omega) (by omega) (by omega) (by omega), h288 _ (by omega), f 288 (by omega) (by omega) (by omega), ← jR.2 r i hr hi]
          by_cases e : r = a
          · subst e
            rw [z6 i hi]
            by_cases e2 : i < c
            · rw [if_pos e2, if_pos (by omega)]
            · rw [if_neg e2, if_neg (by omega)]
          · rw [f _ (by omega) (by omega) (by omega), if_neg (by omega)]
        · rw [hb 5 (by omega), hb 285 (by omega)]; rfl
        · intro b h1 h2 h3 h4
          rw [hb2 b (by omega) (by omega) (by omega) h4 h3, f b (by omega) (by omega) (by omega)]
        · rw [hb 5 (by omega)]
          show S6 5 11 = S 5 11
          rw [f 5 (by omega) (by omega) (by omega)]
        · intro i hi
          rw [hb 285 (by omega), am_u_ne _ (by omega), am_u_ne _ (by omega), am_u_at, if_neg (fun z => hi z.2), am_u_ne _ (by omega), f 285 (by omega) (by omega) (by omega)]
      have key : ∀ (k j : Nat) (S2 : Nat → Nat → Int32), j + k = c → (∀ x, x < 320 → S2 288 x = if 40 * a ≤ x ∧ x < 40 * a + j then 0 else S6 288 x) → (∀ b, b ≠ 288 → S2 b = (am_u (am_u (am_u (am_u S6 5 12 0) 285 3 0) 286 a q) 287 a (nI c)) b) → am_ex (35 + 4) 148 58 [some (.ref 285), some (.int (nI a)), some (.int q), some (.int (nI c)), some (.int (nI j))] [] (am_hh X S2 L) (fun r2 h2 => r2 = some (.int (nI c)) ∧ ∃ S2 L2, h2 = am_hh X S2 L2 ∧ JJ S2) := by
        intro k
        induction k with
        | zero =>
          intro j S2 hj h1 h2
          have : j = c := by omega
          subst this
          exact wl_mrow (d := 35) (fun c => absurd (nI_le (by omega) (by omega)) c) (fun _ => ⟨rfl, S2, L, rfl, fin S2 h1 h2⟩) (fun c => absurd (nI_le (by omega) (by omega)) c)
        | succ k ih =>
          intro j S2 hj h1 h2
          refine wl_mrow (d := 35) (fun _ => by omega) (fun c => absurd c (nI_ge (by omega) (by omega))) (fun _ => ih (j + 1) _ (by omega) (fun x hx => ?_) (fun b hb => (am_u_ne S2 hb).trans (h2 b hb)))
          rw [am_u_at]
          by_cases z : x = 40 * a + j
          · rw [if_pos ⟨rfl, z⟩, if_pos (by omega)]
          · rw [if_neg (fun w => z w.2), h1 x hx]
            by_cases z2 : 40 * a ≤ x ∧ x < 40 * a + j
            · rw [if_pos z2, if_pos (by omega)]
            · rw [if_neg z2, if_neg (by omega)]
      refine key c 0 _ (by omega) (fun x hx => ?_) (fun b hb => rfl)
      rw [if_neg (by omega)]
      rfl
    · refine bo_find 4 J0 (wg_k_row (d := 35) (fun z => hr z.2.2.2.2) (is_p (a := -1000010 - 4) ?_ rfl)) (wg_m_row (d := 35) (fun z => hr z.2.2.2) (is_p (a := -1000010 - 4) ?_ rfl))
      · unfold eg_k_row; rw [if_pos hk, if_neg hq0, if_neg hq3, if_pos hr40, if_neg hr]
      · unfold eg_m_row; rw [if_pos hm, if_pos ⟨hq0, hq2⟩, if_pos hr40, if_neg hr]
  · have e1 : eg_k_row S p q r = (-1000001, S) := by
      unfold eg_k_row
      by_cases h1 : ¬ p < 0 ∧ ¬ 8 ≤ p
      · rw [if_pos h1]
        by_cases h2 : q < 0
        · rw [if_pos h2]
        · rw [if_neg h2]
          by_cases h3 : 3 ≤ q
          · rw [if_pos h3]
          · rw [if_neg h3]
            by_cases h4 : r ≤ 40
            · exact absurd ⟨(rw_k p).mp h1, ⟨h2, h3⟩, h4⟩ hA
            · rw [if_neg h4]
      · rw [if_neg h1]
    have e2 : eg_m_row S p q r = (-1000001, S) := by
      unfold eg_m_row
      by_cases h1 : ¬ p < 0 ∧ ¬ 7 < p
      · rw [if_pos h1]
        by_cases h2 : ¬ q < 0 ∧ ¬ 2 < q
        · rw [if_pos h2]
          by_cases h4 : r ≤ 40
          · exact absurd ⟨(rw_m p).mp h1, ⟨h2.1, fun z => h2.2 ((le3 q).mp z)⟩, h4⟩ hA
          · rw [if_neg h4]
        · rw [if_neg h2]
      · rw [if_neg h1]
    refine bo_ro J0 (wg_k_row (d := 35) ?_ (is_p e1 rfl)) (wg_m_row (d := 35) ?_ (is_p e2 rfl))
    · rintro ⟨h1, h2, h3, h4, -⟩
      exact hA ⟨(rw_k p).mp h1, ⟨h2, h3⟩, h4⟩
    · rintro ⟨h1, h2, h4, -⟩
      exact hA ⟨(rw_m p).mp h1, ⟨h2.1, fun z => h2.2 ((le3 q).mp z)⟩, h4⟩
end BROWS2
