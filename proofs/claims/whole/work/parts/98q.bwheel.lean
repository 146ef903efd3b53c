section BWH
variable {d : Nat} {X : Nat × (Nat → Int32)} {S S1 S2 : Nat → Nat → Int32} {L : Nat → Int64} {Q : Option Value → am_H → Prop}
theorem m_wheel_lp1 (hQ : ∀ S', (∀ a, a ≠ 293 → S' a = S a) → (∀ i, i < 39 → S' 293 i = 0) → am_ex (d + 8) 158 116 [some (.ref 285), some (.int (nI 39))] [] (am_hh X S' L) Q) : ∀ r i S1, i + r = 39 → (∀ a, a ≠ 293 → S1 a = S a) → (∀ j, j < i → S1 293 j = 0) → am_ex (d + 8) 158 97 [some (.ref 285), some (.int (nI i))] [] (am_hh X S1 L) Q := by
  intro r
  induction r with
  | zero =>
    intro i S1 hi h1 h2
    have e : i = 39 := by omega
    subst e
    exact wl_m_wheel1 (fun c => absurd (by decide) c) (fun _ => hQ S1 h1 h2) (fun c => absurd (by decide) c)
  | succ r ih =>
    intro i S1 hi h1 h2
    refine wl_m_wheel1 (fun _ => by omega) (fun c => ?_) (fun _ => ih (i + 1) _ (by omega) (fun a ha => ?_) (fun j hj => ?_))
    · rw [show (39 : Int32) = nI 39 from rfl, nI_leI (by omega) (by omega)] at c; omega
    · rw [am_u_ne _ ha]; exact h1 a ha
    · rw [am_u_at]
      by_cases e : j = i
      · rw [if_pos ⟨rfl, e⟩]
      · rw [if_neg (fun z => e z.2)]; exact h2 j (by omega)
theorem m_wheel_lp3 (hQ : ∀ S', (∀ a, a ≠ 293 → S' a = S a) → (∀ i, i < 39 → S' 293 i = if 21 ≤ i ∧ i < 27 then -1000000 else S 293 i) → Q (some (.int (S' 285 7))) (am_hh X (am_u S' 285 14 0) L)) : ∀ r i S1, i + r = 6 → (∀ a, a ≠ 293 → S1 a = S a) → (∀ j, j < 39 → S1 293 j = if 21 ≤ j ∧ j < 21 + i then -1000000 else S 293 j) → am_ex (d + 8) 158 130 [some (.ref 285), some (.int (nI i))] [] (am_hh X S1 L) Q := by
  intro r
  induction r with
  | zero =>
    intro i S1 hi h1 h2
    have e : i = 6 := by omega
    subst e
    exact wl_m_wheel3 (fun c => absurd (by decide) c) (fun _ => hQ S1 h1 h2) (fun c => absurd (by decide) c)
  | succ r ih =>
    intro i S1 hi h1 h2
    refine wl_m_wheel3 (fun _ => by omega) (fun c => ?_) (fun _ => ih (i + 1) _ (by omega) (fun a ha => ?_) (fun j hj => ?_))
    · rw [show (6 : Int32) = nI 6 from rfl, nI_leI (by omega) (by omega)] at c; omega
    · rw [am_u_ne _ ha]; exact h1 a ha
    · rw [am_u_at]
      by_cases e : j = 21 + i
      · rw [if_pos ⟨rfl, e⟩, if_pos (by omega)]
      · rw [if_neg (fun z => e z.2), h2 j hj]
        by_cases e2 : 21 ≤ j ∧ j < 21 + i
        · rw [if_pos e2, if_pos (by omega)]
        · rw [if_neg e2, if_neg (by omega)]
theorem bo_wheel (J : JJ S) : BO X 28 158 [] S L := by
  obtain ⟨g, n, m, k, jR, jT, jF, jW, jK, jA, jI, jP, jQ, jC⟩ := J
  obtain ⟨⟨len, hl, t1, t2⟩, t3⟩ := jT
  have hsub : am_sub (am_u (am_u S 18 3 0) 18 1 0) 29 = am_sub S 29 := am_sub_c (fun a h1 h2 => by rw [am_u_ne _ (by omega), am_u_ne _ (by omega)])
  have hT : TP (S 19) len (am_u (am_u S 18 3 0) 18 1 0) (0, 0) := by
    refine ⟨am_u_eq _ _ _ _, ?_, ?_, Nat.zero_le _, hl, fun i hi => ?_⟩
    · rw [am_u_ni _ (by omega), am_u_ni _ (by omega)]; exact t1
    · rw [am_u_ni _ (by omega), am_u_eq]; rfl
    · rw [am_u_ne _ (by omega), am_u_ne _ (by omega)]
  have hTH : ∀ S1, TH (am_u (am_u S 18 3 0) 18 1 0) S1 → ∀ x, x ≠ 18 → ¬ (29 ≤ x ∧ x < 38) → S1 x = S x := fun S1 h x c1 c2 => by
    rw [h x c1 c2, am_u_ne _ c1, am_u_ne _ c1]
  obtain ⟨m24, k24, m1, k1, k2, -⟩ := id jA
  unfold BO
  refine wp_k_wheel (d := 31) hT (by rw [hsub]; exact jC 29 isW29) ?_ ?_ ?_ ?_
  · intro N S1 fn r1 _
    have f := hTH S1 r1.1
    rw [am_sub_c (S' := am_u S1 18 2 0) (S := S) (fun a h1 h2 => by rw [am_u_ne _ (by omega), f a (by omega) (by omega)])]
    exact jC 20 isW20
  · intro N S1 fn r1 _
    rw [am_sub_c (S' := am_u S1 18 2 0) (S := S1) (fun a h1 h2 => by rw [am_u_ne _ (by omega)])]
    exact r1.2.2.1
  · intro N S1 fn r1 h0
    have f := hTH S1 r1.1
    have e29 : am_sub (am_u S1 18 2 0) 29 = am_sub S1 29 := am_sub_c (fun a h1 h2 => by rw [am_u_ne _ (by omega)])
    rw [e29]
    obtain ⟨⟨w0, w1, w2, w3, w4, w5, w6⟩, hN6⟩ := r1.2.2.2 h0
    have hc29 := r1.2.2.1
    refine ⟨_, _, _, rfl, rfl, ?_⟩
    generalize hS3 : am_u (am_u (am_ovl (am_u S1 18 2 0) 20 (am_sub S1 29)) 38 2 0) 277 3 0 = S3
    have g1 : ∀ a, a ≠ 18 → ¬ (20 ≤ a ∧ a < 29) → ¬ (29 ≤ a ∧ a < 38) → a ≠ 38 → a ≠ 277 → S3 a = S a := fun a c1 c2 c3 c4 c5 => by
      rw [← hS3, am_u_ne _ c5, am_u_ne _ c4, am_ovl_ne _ _ (by omega), am_u_ne _ c1, f a c1 c3]
    have s20 : am_sub S3 20 = am_sub S1 29 := by
      rw [am_sub_c (S' := S3) (S := am_ovl (am_u S1 18 2 0) 20 (am_sub S1 29)) (fun a c1 c2 => by rw [← hS3, am_u_ne _ (by omega), am_u_ne _ (by omega)]), am_sub_s _ hc29]
    have s29 : am_sub S3 29 = am_sub S1 29 := am_sub_c (fun a c1 c2 => by rw [← hS3, am_u_ne _ (by omega), am_u_ne _ (by omega), am_ovl_ne _ _ (by omega), am_u_ne _ (by omega)])
    have s18 : S3 18 2 = 0 := by rw [← hS3, am_u_ne _ (by omega), am_u_ne _ (by omega), am_ovl_ne _ _ (by omega), am_u_eq]
    have s1 : S3 38 1 = nI m := by rw [← hS3, am_u_ne _ (by omega), am_u_ni _ (by omega), am_ovl_ne _ _ (by omega), am_u_ne _ (by omega), f 38 (by omega) (by omega), m1]
    have s2 : S3 38 2 = 0 := by rw [← hS3, am_u_ne _ (by omega), am_u_eq]
    have s3 : S3 277 3 = 0 := by rw [← hS3, am_u_eq]
    have g285 : S3 285 = S 285 := g1 285 (by omega) (by omega) (by omega) (by omega) (by omega)
    have g289 : S3 289 = S 289 := g1 289 (by omega) (by omega) (by omega) (by omega) (by omega)
    refine wp_m_wheel (d := 31) (b := S 19) (len := len) (N := N) (by rw [g285]; exact t2) hl (fun i hi => by rw [g289]; exact (t3 i hi).symm) fn ?_ ?_
    · intro S4 r4 _
      obtain ⟨mh, mp, mv⟩ := r4
      obtain ⟨v1, v2, v3, v4, v5⟩ := mv h0
      generalize hS5 : am_uc (am_uc (am_uc (am_u (am_u (am_u S4 285 5 0) 285 7 (S4 285 24)) 285 8 (S4 300 0)) 290 (va_cpy (S4 301) (S4 290) 0 0 6)) 291 (va_cpy (S4 302) (S4 291) 0 0 6)) 292 (va_cpy (S4 303) (S4 292) 0 0 6) = S5
      have h5 : ∀ a, a ≠ 285 → ¬ (290 ≤ a ∧ a < 293) → S5 a = S4 a := fun a c1 c2 => by
        rw [← hS5, am_uc_ne _ (by omega), am_uc_ne _ (by omega), am_uc_ne _ (by omega), am_u_ne _ c1, am_u_ne _ c1, am_u_ne _ c1]
      have h57 : S5 285 7 = nI N := by
        rw [← hS5, am_uc_ne _ (by omega), am_uc_ne _ (by omega), am_uc_ne _ (by omega), am_u_ni _ (by omega), am_u_eq, v1]
      have h58 : S5 285 8 = pz_g (S 19) len := by
        rw [← hS5, am_uc_ne _ (by omega), am_uc_ne _ (by omega), am_uc_ne _ (by omega), am_u_eq, v3]
      have h55 : S5 285 5 = 0 := by
        rw [← hS5, am_uc_ne _ (by omega), am_uc_ne _ (by omega), am_uc_ne _ (by omega), am_u_ni _ (by omega), am_u_ni _ (by omega), am_u_eq]
      have h5i : ∀ i, i ≠ 5 → i ≠ 7 → i ≠ 8 → S5 285 i = S4 285 i := fun i c1 c2 c3 => by
        rw [← hS5, am_uc_ne _ (by omega), am_uc_ne _ (by omega), am_uc_ne _ (by omega), am_u_ni _ c3, am_u_ni _ c2, am_u_ni _ c1]
      have h290 : ∀ i, i < 6 → S5 290 i = S4 301 i := fun i hi => by
        rw [← hS5, am_uc_ne _ (by omega), am_uc_ne _ (by omega), am_uc_eq]
        unfold va_cpy
        rw [if_pos (by omega)]; congr 1; omega
      have h291 : ∀ i, i < 6 → S5 291 i = S4 302 i := fun i hi => by
        rw [← hS5, am_uc_ne _ (by omega), am_uc_eq]
        unfold va_cpy
        rw [if_pos (by omega)]; congr 1; omega
      have h292 : ∀ i, i < 6 → S5 292 i = S4 303 i := fun i hi => by
        rw [← hS5, am_uc_eq]
        unfold va_cpy
        rw [if_pos (by omega)]; congr 1; omega
      refine m_wheel_lp1 (S := S5) (d := 31) ?_ 39 0 S5 (by omega) (fun _ _ => rfl) (fun j hj => absurd hj (by omega))
      intro S6 a6 z6
      refine wl_m_wheel2 (d := 31) ?_
      refine m_wheel_lp3 (S := am_u S6 293 2 (S6 300 1)) (d := 31) ?_ 6 0 _ (by omega) (fun _ _ => rfl) (fun j hj => by rw [if_neg (by omega)])
      intro S7 a7 z7
      have q7 : ∀ a, a ≠ 293 → S7 a = S5 a := fun a c => by rw [a7 a c, am_u_ne _ c, a6 a c]
      generalize hS8 : am_u S7 285 14 0 = S8
      have q8 : ∀ a, a ≠ 285 → a ≠ 293 → S8 a = S5 a := fun a c c' => by rw [← hS8, am_u_ne _ c, q7 a c']
      have q85 : ∀ i, i ≠ 14 → S8 285 i = S5 285 i := fun i hi => by rw [← hS8, am_u_ni _ hi, q7 285 (by omega)]
      have q814 : S8 285 14 = 0 := by rw [← hS8, am_u_eq]
      have q93 : ∀ i, i < 39 → S8 293 i = if 21 ≤ i ∧ i < 27 then -1000000 else if i = 2 then pz_l (S 19) len else 0 := fun i hi => by
        rw [← hS8, am_u_ne _ (by omega), z7 i hi]
        by_cases e : 21 ≤ i ∧ i < 27
        · rw [if_pos e, if_pos e]
        · rw [if_neg e, if_neg e, am_u_at]
          by_cases e2 : i = 2
          · rw [if_pos ⟨rfl, e2⟩, if_pos e2, a6 300 (by omega), h5 300 (by omega) (by omega), v4]
          · rw [if_neg (fun z => e2 z.2), if_neg e2, z6 i hi]
      obtain ⟨⟨g', hg1, hg2, hg3⟩, hk⟩ := pz_ok h0
      have q : ∀ a, a ≠ 18 ∧ ¬ (20 ≤ a ∧ a < 38) ∧ a ≠ 38 ∧ a ≠ 277 ∧ a ≠ 285 ∧ ¬ (290 ≤ a ∧ a < 294) ∧ ¬ (300 ≤ a ∧ a ≤ 303) → S8 a = S a := fun a c => by
        rw [q8 a c.2.2.2.2.1 (by omega), h5 a c.2.2.2.2.1 (by omega), mh.1 a c.2.2.2.2.1 c.2.2.2.2.2.2, g1 a c.1 (by omega) (by omega) c.2.2.1 c.2.2.2.1]
      have qi : ∀ a i, a ≠ 18 ∧ ¬ (20 ≤ a ∧ a < 38) ∧ a ≠ 38 ∧ a ≠ 277 ∧ a ≠ 285 ∧ ¬ (290 ≤ a ∧ a < 294) ∧ ¬ (300 ≤ a ∧ a ≤ 303) → S8 a i = S a i := fun a i c => by rw [q a c]
      have q3 : ∀ a, a ≠ 285 → ¬ (290 ≤ a ∧ a < 294) → ¬ (300 ≤ a ∧ a ≤ 303) → S8 a = S3 a := fun a c1 c2 c3 => by
        rw [q8 a c1 (by omega), h5 a c1 (by omega), mh.1 a c1 c3]
      have q5 : ∀ i, i ≠ 14 ∧ i ≠ 5 ∧ i ≠ 7 ∧ i ≠ 8 ∧ ¬ (21 ≤ i ∧ i ≤ 24) → S8 285 i = S 285 i := fun i c => by
        rw [q85 i c.1, h5i i c.2.1 c.2.2.1 c.2.2.2.1, mh.2 i (by omega) (by omega) (by omega) (by omega), g285]
      have e20 : am_sub S8 20 = am_sub S1 29 := by
        rw [am_sub_c (S' := S8) (S := S3) (fun a c1 c2 => q3 a (by omega) (by omega) (by omega)), s20]
      have hfn := fn.1
      refine ⟨?_, _, _, rfl, g', N, m, 0, JR_c jR ?_ ?_, ⟨⟨0, by omega, ?_, ?_⟩, fun i hi => ?_⟩, JF_c jF ?_ ?_ ?_ ?_, Or.inr ⟨hfn, ?_, ?_⟩, JK_c jK ?_, ⟨m24, by omega, ?_, ?_, q814, fun _ => rfl, fun j hj => absurd hj (by omega)⟩, JI_c jI ?_ ?_ ?_, Or.inl ?_, JQ_c jQ ?_ ?_ ?_ ?_, fun w hw => ?_⟩
      all_goals first | (apply q; omega) | (apply qi; omega) | (apply q5; omega) | (intro a ha hb; apply q; omega) | skip
      · rw [q7 285 (by omega), h57, w4]
      · rw [q3 18 (by omega) (by omega) (by omega), s18]; rfl
      · rw [q85 5 (by omega), h55]; rfl
      · rw [q 19 (by omega), q 289 (by omega)]; exact t3 i hi
      · rw [e20]
        refine ⟨⟨w4, by rw [q85 7 (by omega), h57], hN6⟩, ⟨by rw [w0, hg3], by rw [q85 8 (by omega), h58, hg3], hg1, hg2⟩, ⟨0, by omega, w2, ?_⟩, ?_, ?_, fun i hi => ?_, fun p hp => ?_, fun p hp => ?_, fun p hp => ?_, fun p hp z => ?_, fun p _ hp _ z => ?_, fun p hp => ?_⟩
        · rw [q93 1 (by omega), if_neg (by omega), if_neg (by omega)]; rfl
        · rw [q93 2 (by omega), if_neg (by omega), if_pos rfl, w1]
        · rw [q93 0 (by omega), if_neg (by omega), if_neg (by omega), w3]
        · rw [q93 _ (by omega), if_neg (by omega), if_neg (by omega), w5 i hi]
        · obtain ⟨⟨x1, x2, x3⟩, -⟩ := w6 p hp
          obtain ⟨y1, y2, y3⟩ := v5 p hp
          rw [q8 290 (by omega) (by omega), q8 291 (by omega) (by omega), q8 292 (by omega) (by omega), h290 p (by omega), h291 p (by omega), h292 p (by omega), x1, x2, x3, y1, y2, y3]
          exact ⟨rfl, rfl, rfl⟩
        · obtain ⟨-, x1, x2, x3⟩ := w6 p hp
          rw [q93 _ (by omega), q93 _ (by omega), q93 _ (by omega), if_neg (by omega), if_neg (by omega), if_neg (by omega), if_neg (by omega), if_neg (by omega), if_neg (by omega), x1, x2, x3]
          exact ⟨rfl, rfl, rfl⟩
        · obtain ⟨-, x1, x2, x3⟩ := w6 p hp
          rw [q93 _ (by omega), if_pos (by omega), x1, if_neg (by decide)]
        · rw [(w6 p hp).2.1] at z; exact absurd z (by decide)
        · rw [(w6 p hp).2.1] at z; exact absurd z (by decide)
        · exact Or.inl (w6 p hp).2.1
      · rw [e20]
        refine ⟨fun p hp => ?_, fun p hp => ⟨0, by omega, (w6 p hp).2.2.1⟩, fun i hi => ⟨0, by omega, w5 i hi⟩⟩
        obtain ⟨kk, k1, k2, k3⟩ := hk p hp
        exact ⟨kk, k1, k2, by rw [(w6 p hp).1.1, k3]⟩
      · rw [q3 38 (by omega) (by omega) (by omega), s1]
      · rw [q3 38 (by omega) (by omega) (by omega), s2]; rfl
      · rw [q3 277 (by omega) (by omega) (by omega), s3]
      · rcases hw with rfl | rfl | ⟨c, hc, rfl⟩ | ⟨c, hc, rfl⟩
        · rw [e20]; exact hc29
        · rw [am_sub_c (S' := S8) (S := S3) (fun a c1 c2 => q3 a (by omega) (by omega) (by omega)), s29]; exact hc29
        · rw [am_sub_c (S' := S8) (S := S) (fun a h1 h2 => q a (by omega))]
          exact jC _ (isW_past hc)
        · rw [am_sub_c (S' := S8) (S := S) (fun a h1 h2 => q a (by omega))]
          exact jC _ (isW_kept hc)
    · intro S4 r4 c
      rw [r4.2.1.1] at c
      exact absurd h0 c
  · intro N S1 fn r1 h0
    have f := hTH S1 r1.1
    have hc29 := r1.2.2.1
    refine ⟨_, _, _, rfl, rfl, ?_⟩
    have e3 : S1 18 3 = nI (pz_st (S 19) len N).2 := r1.2.1.2.2.1
    generalize hS3 : am_u (am_u S1 18 2 0) 5 11 (pz_st (S 19) len N).1 = S3
    have g1 : ∀ a, a ≠ 18 → a ≠ 5 → ¬ (29 ≤ a ∧ a < 38) → S3 a = S a := fun a c1 c2 c3 => by
      rw [← hS3, am_u_ne _ c2, am_u_ne _ c1, f a c1 c3]
    have s29 : am_sub S3 29 = am_sub S1 29 := am_sub_c (fun a c1 c2 => by rw [← hS3, am_u_ne _ (by omega), am_u_ne _ (by omega)])
    have s18 : S3 18 2 = 0 := by rw [← hS3, am_u_ne _ (by omega), am_u_eq]
    have s5 : S3 5 11 = (pz_st (S 19) len N).1 := by rw [← hS3, am_u_eq]
    have s5i : ∀ i, i ≠ 11 → S3 5 i = S 5 i := fun i hi => by rw [← hS3, am_u_ni _ hi, am_u_ne _ (by omega), f 5 (by omega) (by omega)]
    have g285 : S3 285 = S 285 := g1 285 (by omega) (by omega) (by omega)
    have g289 : S3 289 = S 289 := g1 289 (by omega) (by omega) (by omega)
    refine wp_m_wheel (d := 31) (b := S 19) (len := len) (N := N) (by rw [g285]; exact t2) hl (fun i hi => by rw [g289]; exact (t3 i hi).symm) fn ?_ ?_
    · intro S4 r4 c
      rw [r4.2.1.1] at c
      exact absurd c h0
    · intro S4 r4 c
      obtain ⟨mh, mp, mv⟩ := r4
      have e22 : S4 285 22 = nI (pz_st (S 19) len N).2 := mp.2.2.2.2.2.1 h0
      have e23 : S4 285 23 = (pz_st (S 19) len N).1 := mp.1
      generalize hS8 : am_u (am_u S4 285 5 0) 285 6 (S4 285 23) = S8
      have q3 : ∀ a, a ≠ 285 → ¬ (300 ≤ a ∧ a ≤ 303) → S8 a = S3 a := fun a c1 c2 => by
        rw [← hS8, am_u_ne _ c1, am_u_ne _ c1, mh.1 a c1 c2]
      have q : ∀ a, a ≠ 18 ∧ a ≠ 5 ∧ ¬ (29 ≤ a ∧ a < 38) ∧ a ≠ 285 ∧ ¬ (300 ≤ a ∧ a ≤ 303) → S8 a = S a := fun a c => by
        rw [q3 a c.2.2.2.1 c.2.2.2.2, g1 a c.1 c.2.1 c.2.2.1]
      have qi : ∀ a i, a ≠ 18 ∧ a ≠ 5 ∧ ¬ (29 ≤ a ∧ a < 38) ∧ a ≠ 285 ∧ ¬ (300 ≤ a ∧ a ≤ 303) → S8 a i = S a i := fun a i c => by rw [q a c]
      have q5 : ∀ i, i ≠ 5 ∧ i ≠ 6 ∧ ¬ (21 ≤ i ∧ i ≤ 24) → S8 285 i = S 285 i := fun i c => by
        rw [← hS8, am_u_ni _ c.2.1, am_u_ni _ c.1, mh.2 i (by omega) (by omega) (by omega) (by omega), g285]
      refine ⟨by rw [e3, e22], _, _, rfl, g, n, m, k, JR_c jR ?_ ?_, ⟨⟨0, by omega, ?_, ?_⟩, fun i hi => ?_⟩, ⟨?_, ?_⟩, JW_c jW ?_ ?_ ?_ ?_, JK_c jK ?_, JA_c jA ?_ ?_ ?_ ?_ ?_ ?_ ?_ ?_, JI_c jI ?_ ?_ ?_, JP_c jP ?_ ?_ ?_ ?_, JQ_c jQ ?_ ?_ ?_ ?_, fun w hw => ?_⟩
      all_goals first | (apply q; omega) | (apply qi; omega) | (apply q5; omega) | (intro a ha hb; apply q; omega) | skip
      · rw [q3 18 (by omega) (by omega), s18]; rfl
      · rw [← hS8, am_u_ni _ (by omega), am_u_eq]; rfl
      · rw [q 19 (by omega), q 289 (by omega)]; exact t3 i hi
      · rw [q3 5 (by omega) (by omega), s5i 12 (by omega), q5 3 (by omega)]; exact jF.1
      · rw [q3 5 (by omega) (by omega), s5, ← hS8, am_u_eq, e23]
      · rcases hw with rfl | rfl | ⟨c, hc, rfl⟩ | ⟨c, hc, rfl⟩
        · rw [am_sub_c (S' := S8) (S := S) (fun a h1 h2 => q a (by omega))]
          exact jC 20 isW20
        · rw [am_sub_c (S' := S8) (S := S3) (fun a c1 c2 => q3 a (by omega) (by omega)), s29]; exact hc29
        · rw [am_sub_c (S' := S8) (S := S) (fun a h1 h2 => q a (by omega))]
          exact jC _ (isW_past hc)
        · rw [am_sub_c (S' := S8) (S := S) (fun a h1 h2 => q a (by omega))]
          exact jC _ (isW_kept hc)
end BWH
