section BACK
variable {X : Nat × (Nat → Int32)} {S S' : Nat → Nat → Int32} {L : Nat → Int64} {g n m k : Nat}
theorem JJ_mk (jR : JR S) (jT : JT S) (jF : JF S) (jK : JK S) (jI : JI S) (jQ : JQ S) (jC : JC S) (hW : JW S' g n) (hA : JA S' g n m k) (hc20 : w_cl (am_sub S' 20)) (h3 : S' 277 3 = 0) (h : ∀ a, ¬ (20 ≤ a ∧ a < 29) → a ≠ 38 → a ≠ 277 → a ≠ 285 → ¬ (290 ≤ a ∧ a < 294) → S' a = S a) (h285 : ∀ i, i ≠ 14 → i ≠ 7 → i ≠ 8 → S' 285 i = S 285 i) : JJ S' := by
  have q : ∀ a, ¬ (20 ≤ a ∧ a < 29) ∧ a ≠ 38 ∧ a ≠ 277 ∧ a ≠ 285 ∧ ¬ (290 ≤ a ∧ a < 294) → S' a = S a := fun a ha => h a ha.1 ha.2.1 ha.2.2.1 ha.2.2.2.1 ha.2.2.2.2
  have qi : ∀ a i, ¬ (20 ≤ a ∧ a < 29) ∧ a ≠ 38 ∧ a ≠ 277 ∧ a ≠ 285 ∧ ¬ (290 ≤ a ∧ a < 294) → S' a i = S a i := fun a i ha => by rw [q a ha]
  have q5 : ∀ i, i ≠ 14 ∧ i ≠ 7 ∧ i ≠ 8 → S' 285 i = S 285 i := fun i hi => h285 i hi.1 hi.2.1 hi.2.2
  refine ⟨g, n, m, k, JR_c jR ?_ ?_, JT_c jT ?_ ?_ ?_ ?_, JF_c jF ?_ ?_ ?_ ?_, hW, JK_c jK ?_, hA, JI_c jI ?_ ?_ ?_, Or.inl h3, JQ_c jQ ?_ ?_ ?_ ?_, fun w hw => ?_⟩
  all_goals first | (apply q; omega) | (apply qi; omega) | (apply q5; omega) | (intro a ha hb; apply q; omega) | skip
  rcases hw with rfl | rfl | ⟨c, hc, rfl⟩ | ⟨c, hc, rfl⟩
  · exact hc20
  · rw [am_sub_c (S' := S') (S := S) (fun a h1 h2 => q a (by omega))]
    exact jC 29 isW29
  · rw [am_sub_c (S' := S') (S := S) (fun a h1 h2 => q a (by omega))]
    exact jC _ (isW_past hc)
  · rw [am_sub_c (S' := S') (S := S) (fun a h1 h2 => q a (by omega))]
    exact jC _ (isW_kept hc)
theorem undo_s {S1 S2 : Nat → Nat → Int32} {c : Nat} (jR : JR S) (jT : JT S) (jF : JF S) (jK : JK S) (jA : JA S g n m k) (jI : JI S) (jQ : JQ S) (jC : JC S) (hk : 1 ≤ k) (ec : c = (m + 23) % 24)
    (h1 : ∀ a, a ≠ 38 → a ≠ 277 → S1 a = am_ovl S 20 (am_sub S (40 + 9 * c)) a) (hn1 : S1 38 1 = nI c) (hn2 : S1 38 2 = nI (k - 1)) (h3 : S1 277 3 = 0)
    (h2 : ∀ a, a ≠ 285 → a ≠ 293 → S2 a = S1 a) (h14 : S2 285 14 = nI (k - 1)) (h285 : ∀ i, i ≠ 14 → S2 285 i = S1 285 i) (h293 : ∀ i, i < 39 → S2 293 i = S 294 (39 * (k - 1) + i)) : JJ S2 := by
  obtain ⟨a1, a2, a3, a4, a5, a6, a7⟩ := jA
  have hn : 1 ≤ n := by
    rcases Nat.eq_zero_or_pos n with z | z
    · have := a6 z; omega
    · exact z
  have f1 : ∀ a, ¬ (20 ≤ a ∧ a < 29) → a ≠ 38 → a ≠ 277 → S1 a = S a := fun a c1 c2 c3 => by rw [h1 a c2 c3, am_ovl_ne _ _ (by omega)]
  have f2 : ∀ a, ¬ (20 ≤ a ∧ a < 29) → a ≠ 38 → a ≠ 277 → a ≠ 285 → a ≠ 293 → S2 a = S a := fun a c1 c2 c3 c4 c5 => by rw [h2 a c4 c5, f1 a c1 c2 c3]
  have f5 : ∀ i, i ≠ 14 → S2 285 i = S 285 i := fun i hi => by rw [h285 i hi, f1 285 (by omega) (by omega) (by omega)]
  have fi : ∀ a, ¬ (20 ≤ a ∧ a < 29) → a ≠ 38 → a ≠ 277 → a ≠ 285 → a ≠ 293 → ∀ i, S2 a i = S a i := fun a c1 c2 c3 c4 c5 i => by rw [f2 a c1 c2 c3 c4 c5]
  have hcw : w_cl (am_sub S (40 + 9 * c)) := jC _ (isW_past (by omega))
  have e20 : am_sub S2 20 = am_sub S (40 + 9 * c) := by
    rw [am_sub_c (S' := S2) (S := am_ovl S 20 (am_sub S (40 + 9 * c))) (fun a c1 c2 => by rw [h2 a (by omega) (by omega), h1 a (by omega) (by omega)]), am_sub_s S hcw]
  have h0 := a7 0 (by omega)
  rw [show m + 23 - 0 = m + 23 by omega, ← ec, show k - 1 - 0 = k - 1 by omega] at h0
  refine JJ_mk (g := g) (n := n) (m := c) (k := k - 1) jR jT jF jK jI jQ jC (Or.inr ⟨hn, ?_, ?_⟩) ⟨by omega, by omega, ?_, ?_, h14, fun z => by omega, fun j hj => ?_⟩ ?_ ?_ (fun a c1 c2 c3 c4 c5 => f2 a c1 c2 c3 c4 (by omega)) (fun i hi _ _ => f5 i hi)
  · rw [e20]
    exact mR_c h0.1 (f5 7 (by omega)) (f5 8 (by omega)) h293 (fun i _ => fi 290 (by omega) (by omega) (by omega) (by omega) (by omega) i) (fun i _ => fi 291 (by omega) (by omega) (by omega) (by omega) (by omega) i) (fun i _ => fi 292 (by omega) (by omega) (by omega) (by omega) (by omega) i)
  · rw [e20]; exact h0.2
  · rw [h2 38 (by omega) (by omega)]; exact hn1
  · rw [h2 38 (by omega) (by omega)]; exact hn2
  · obtain ⟨r1, r2⟩ := a7 (j + 1) (by omega)
    have e : (c + 23 - j) % 24 = (m + 23 - (j + 1)) % 24 := by omega
    rw [e, am_sub_c (S' := S2) (S := S) (fun a c1 c2 => f2 a (by omega) (by omega) (by omega) (by omega) (by omega)), f5 7 (by omega), f5 8 (by omega), f2 290 (by omega) (by omega) (by omega) (by omega) (by omega), f2 291 (by omega) (by omega) (by omega) (by omega) (by omega), f2 292 (by omega) (by omega) (by omega) (by omega) (by omega), f2 294 (by omega) (by omega) (by omega) (by omega) (by omega)]
    refine ⟨?_, r2⟩
    rw [show k - 1 - 1 - j = k - 1 - (j + 1) by omega]
    exact r1
  · rw [e20]; exact hcw
  · rw [h2 277 (by omega) (by omega)]; exact h3
theorem bo_undo (J : JJ S) : BO X 47 169 [] S L := by
  have J0 := J
  obtain ⟨g, n, m, k, jR, jT, jF, jW, jK, jA, jI, jP, jQ, jC⟩ := J
  have jA' := jA
  obtain ⟨m24, k24, m1, k1, k2, -⟩ := jA
  have hm1 : ¬ S 38 1 ≤ 0 → S 38 1 - 1 = nI (m - 1) := by
    intro c
    rw [m1] at c ⊢
    cases m with
    | zero => exact absurd (by decide) c
    | succ m => rw [nI_pred]; rfl
  have hm2 : S 38 1 ≤ 0 ↔ m = 0 := by
    rw [m1, show (0 : Int32) = nI 0 from rfl, nI_leI (by omega) (by omega)]
    omega
  have hk0 : nI k = 0 ↔ k = 0 := by
    rw [show (0 : Int32) = nI 0 from rfl, nI_eq (by omega) (by omega)]
  have hkp : ¬ k = 0 → nI k - 1 = nI (k - 1) := by
    intro c
    cases k with
    | zero => exact absurd rfl c
    | succ k => rw [nI_pred]; rfl
  by_cases hk : k = 0
  · refine bo_ro (v := .int (-1000002)) J0 (wp_k_undo (d := 31) (m := m) hm1 ?_ ?_ ?_ ?_ ?_ ?_ ?_ ?_ (fun _ => am_is_i)) (wp_m_undo (d := 31) (k := k) ?_ ?_ ?_ (fun _ => am_is_i))
    all_goals intro c; first | (rw [k1, hk0] at c; exact absurd hk c) | (rw [k2, hk0] at c; exact absurd hk c)
  · unfold BO
    have cl20 : ∀ v, w_cl (am_sub (am_u S 38 1 v) 20) := fun v => by
      rw [am_sub_c (S' := am_u S 38 1 v) (S := S) (fun a c1 c2 => am_u_ne _ (by omega))]; exact jC 20 isW20
    have esub : ∀ v c, am_sub (am_u S 38 1 v) (40 + 9 * c) = am_sub S (40 + 9 * c) := fun v c => am_sub_c (fun a c1 c2 => am_u_ne _ (by omega))
    have clp : ∀ v c, c < 24 → w_cl (am_sub (am_u S 38 1 v) (40 + 9 * c)) := fun v c hc => by
      rw [esub]; exact jC _ (isW_past hc)
    have mo : ∀ S1, (∀ a, ¬ (20 ≤ a ∧ a < 29) → a ≠ 38 → a ≠ 277 → S1 a = S a) → (∀ S2, (∀ a, a ≠ 285 → a ≠ 293 → S2 a = S1 a) → S2 285 14 = nI (k - 1) → (∀ i, i ≠ 14 → S2 285 i = S1 285 i) → (∀ i, i < 39 → S2 293 i = S 294 (39 * (k - 1) + i)) → JJ S2) → am_mt 39 169 [.ref 285] (am_hh X S1 L) (fun r2 h2 => r2 = some (.int (S 38 2 - 1)) ∧ ∃ S2 L2, h2 = am_hh X S2 L2 ∧ JJ S2) := by
      intro S1 f1 hJ
      have g285 : S1 285 = S 285 := f1 285 (by omega) (by omega) (by omega)
      have g294 : S1 294 = S 294 := f1 294 (by omega) (by omega) (by omega)
      refine wp_m_undo (d := 31) (k := k) ?_ (fun _ => by omega) (fun c => ⟨?_, _, _, rfl, hJ _ (fun a c1 c2 => ?_) ?_ (fun i hi => ?_) (fun i hi => ?_)⟩) (fun c => ?_)
      · intro _; rw [g285, k2]; exact hkp hk
      · rw [g285, k2, k1]
      · rw [am_uc_ne _ c2, am_u_ne _ c1]
      · rw [am_uc_ne _ (by omega), am_u_eq, g285, k2, hkp hk]
      · rw [am_uc_ne _ (by omega), am_u_ni _ hi]
      · rw [am_uc_eq, g294]
        unfold va_cpy
        rw [if_pos (by omega)]
        congr 1
      · rw [g285, k2, hk0] at c; exact absurd c hk
    refine wp_k_undo (d := 31) (m := m) hm1 (fun _ _ => cl20 _) (fun _ _ => clp _ 23 (by omega)) (fun _ _ => cl20 _) (fun _ _ => clp _ _ (by omega)) (fun _ _ => by omega) (fun _ _ => by omega) (fun _ c => ?_) (fun _ c => ?_) (fun c => ?_)
    · rw [hm2] at c
      refine ⟨_, _, _, rfl, rfl, mo _ (fun a c1 c2 c3 => ?_) (fun S2 h2 h14 h285 h293 => ?_)⟩
      · rw [am_u_ne _ c3, am_u_ne _ c2, am_ovl_ne _ _ (by omega), am_u_ne _ c2]
      · refine undo_s (c := 23) jR jT jF jK jA' jI jQ jC (by omega) (by omega) (fun a c1 c2 => ?_) rfl ?_ rfl h2 h14 h285 h293
        · rw [am_u_ne _ c2, am_u_ne _ c1, esub]
          unfold am_ovl
          rw [am_u_ne _ c1]
        · rw [am_u_ne _ (by omega), am_u_eq, k1, hkp hk]
    · have c' := c
      rw [hm2] at c
      refine ⟨_, _, _, rfl, rfl, mo _ (fun a c1 c2 c3 => ?_) (fun S2 h2 h14 h285 h293 => ?_)⟩
      · rw [am_u_ne _ c3, am_u_ne _ c2, am_ovl_ne _ _ (by omega), am_u_ne _ c2]
      · refine undo_s (c := m - 1) jR jT jF jK jA' jI jQ jC (by omega) (by omega) (fun a c1 c2 => ?_) ?_ ?_ rfl h2 h14 h285 h293
        · rw [am_u_ne _ c2, am_u_ne _ c1, esub]
          unfold am_ovl
          rw [am_u_ne _ c1]
        · rw [am_u_ne _ (by omega), am_u_ni _ (by omega), am_ovl_ne _ _ (by omega), am_u_eq, hm1 c']
        · rw [am_u_ne _ (by omega), am_u_eq, k1, hkp hk]
    · rw [k1, hk0] at c; exact absurd c hk
theorem img_v (U : Nat → Nat → Int32) (f1 f2 f3 f4 : Nat → Int32) (b : Nat) (v7 v8 : Int32) (R : Nat → Int32) (hR : R = va_cpy f4 (va_cpy f3 (va_cpy f2 (va_cpy f1 (am_u (am_u U 295 b v7) 295 (b + 1) v8 295) 0 (b + 2) 6) 0 (b + 8) 6) 0 (b + 14) 6) 0 (b + 20) 39) : R b = v7 ∧ R (b + 1) = v8 ∧ (∀ i, i < 6 → R (b + 2 + i) = f1 i) ∧ (∀ i, i < 6 → R (b + 8 + i) = f2 i) ∧ (∀ i, i < 6 → R (b + 14 + i) = f3 i) ∧ (∀ i, i < 39 → R (b + 20 + i) = f4 i) ∧ ∀ x, (x < b ∨ b + 59 ≤ x) → R x = U 295 x := by
  subst hR
  unfold va_cpy
  refine ⟨?_, ?_, fun i hi => ?_, fun i hi => ?_, fun i hi => ?_, fun i hi => ?_, fun x hx => ?_⟩
  · rw [if_neg (by omega), if_neg (by omega), if_neg (by omega), if_neg (by omega), am_u_ni _ (by omega), am_u_eq]
  · rw [if_neg (by omega), if_neg (by omega), if_neg (by omega), if_neg (by omega), am_u_eq]
  · rw [if_neg (by omega), if_neg (by omega), if_neg (by omega), if_pos (by omega)]
    congr 1
    omega
  · rw [if_neg (by omega), if_neg (by omega), if_pos (by omega)]
    congr 1
    omega
  · rw [if_neg (by omega), if_pos (by omega)]
    congr 1
    omega
  · rw [if_pos (by omega)]
    congr 1
    omega
  · rw [if_neg (by omega), if_neg (by omega), if_neg (by omega), if_neg (by omega), am_u_ni _ (by omega), am_u_ni _ (by omega)]
theorem eg_im {A B P1 Q1 : Prop} [Decidable A] [Decidable B] [Decidable P1] [Decidable Q1] (h : ¬ A ↔ B) (h1 : P1 ↔ Q1) (x y z : Int32) : (if A then x else if P1 then y else z) = if B then (if Q1 then y else z) else x := by
  by_cases a : A
  · rw [if_pos a, if_neg (fun b => (h.mpr b) a)]
  · rw [if_neg a, if_pos (h.mp a)]
    by_cases p : P1
    · rw [if_pos p, if_pos (h1.mp p)]
    · rw [if_neg p, if_neg (fun q => p (h1.mpr q))]
theorem bo_image (J : JJ S) (p : Int32) : BO X 127 219 [.int p] S L := by
  have J0 := J
  obtain ⟨g, n, m, k, jR, jT, jF, jW, jK, jA, jI, jP, jQ, jC⟩ := J
  have hiff : g_k_image S p ↔ g_m_image S p := by
    unfold g_k_image g_m_image
    rw [gs_iff jW, not_or]
  by_cases hg : g_k_image S p
  · have hgm := hiff.mp hg
    obtain ⟨hn1, hR, hG⟩ := gs_y jW hg.2
    obtain ⟨j, -, hj, rfl⟩ := go_i (a := 0) (b := 1) (by omega) (by omega) hg.1
    unfold BO
    refine wv_k_image (d := 31) hg (jC _ (isW_kept (by omega))) (jC 20 isW20) (by omega) ⟨_, _, _, rfl, rfl, ?_⟩
    have f1 : ∀ a, ¬ (258 ≤ a ∧ a < 276) → am_ovl S (258 + 9 * j) (am_sub S 20) a = S a := fun a c => am_ovl_ne _ _ (by omega)
    have ej : am_sub (am_ovl S (258 + 9 * j) (am_sub S 20)) (258 + 9 * j) = am_sub S 20 := am_sub_s S (jC 20 isW20)
    have en : ∀ c, c < 2 → c ≠ j → am_sub (am_ovl S (258 + 9 * j) (am_sub S 20)) (258 + 9 * c) = am_sub S (258 + 9 * c) := fun c hc hn => am_sub_o _ _ (by omega)
    generalize hS1 : am_ovl S (258 + 9 * j) (am_sub S 20) = S1 at f1 ej en ⊢
    have g285 : S1 285 = S 285 := f1 285 (by omega)
    refine wv_m_image (d := 31) (by rw [g285]; exact hgm) (by omega) (by omega) (by omega) (by omega) (by omega) (by omega) (by omega) ⟨rfl, _, _, rfl, ?_⟩
    obtain ⟨v1, v2, v3, v4, v5, v6, v7⟩ := img_v (am_u S1 296 j 1) (S1 290) (S1 291) (S1 292) (S1 293) (59 * j) (S1 285 7) (S1 285 8) _ rfl
    generalize (va_cpy (S1 293) (va_cpy (S1 292) (va_cpy (S1 291) (va_cpy (S1 290) (am_u (am_u (am_u S1 296 j 1) 295 (59 * j) (S1 285 7)) 295 (59 * j + 1) (S1 285 8) 295) 0 (59 * j + 2) 6) 0 (59 * j + 8) 6) 0 (59 * j + 14) 6) 0 (59 * j + 20) 39) = R at v1 v2 v3 v4 v5 v6 v7 ⊢
    generalize hS2 : am_uc _ 295 R = S2
    have s295 : S2 295 = R := by rw [← hS2, am_uc_eq]
    have s296 : S2 296 = am_u S1 296 j 1 296 := by
      rw [← hS2, am_uc_ne _ (by omega), am_uc_ne _ (by omega), am_uc_ne _ (by omega), am_uc_ne _ (by omega), am_u_ne _ (by omega), am_u_ne _ (by omega)]
    have f2 : ∀ a, a ≠ 295 → a ≠ 296 → S2 a = S1 a := fun a c1 c2 => by
      rw [← hS2, am_uc_ne _ c1, am_uc_ne _ c1, am_uc_ne _ c1, am_uc_ne _ c1, am_u_ne _ c1, am_u_ne _ c1, am_u_ne _ c2]
    have q : ∀ a, ¬ (258 ≤ a ∧ a < 276) ∧ a ≠ 295 ∧ a ≠ 296 → S2 a = S a := fun a c => by rw [f2 a c.2.1 c.2.2, f1 a c.1]
    have qi : ∀ a i, ¬ (258 ≤ a ∧ a < 276) ∧ a ≠ 295 ∧ a ≠ 296 → S2 a i = S a i := fun a i c => by rw [q a c]
    have es : ∀ c, c < 2 → am_sub S2 (258 + 9 * c) = am_sub S1 (258 + 9 * c) := fun c hc => am_sub_c (fun a c1 c2 => f2 a (by omega) (by omega))
    refine ⟨g, n, m, k, JR_c jR ?_ ?_, JT_c jT ?_ ?_ ?_ ?_, JF_c jF ?_ ?_ ?_ ?_, JW_c jW ?_ ?_ ?_ ?_, JK_c jK ?_, JA_c jA ?_ ?_ ?_ ?_ ?_ ?_ ?_ ?_, fun c hc => ?_, JP_c jP ?_ ?_ ?_ ?_, JQ_c jQ ?_ ?_ ?_ ?_, fun w hw => ?_⟩
    all_goals first | (apply q; omega) | (apply qi; omega) | (intro a ha hb; apply q; omega) | skip
    · by_cases z : c = j
      · subst z
        refine Or.inr ⟨by rw [s296, am_u_eq], g, n, hn1, ?_, ?_⟩
        · rw [es c hc, ej, s295, v1, v2]
          refine mR_c hR ?_ ?_ (fun i hi => ?_) (fun i hi => ?_) (fun i hi => ?_) (fun i hi => ?_)
          · show S1 285 7 = _
            rw [g285]
          · show S1 285 8 = _
            rw [g285]
          · show R (59 * c + 20 + i) = _
            rw [v6 i hi, f1 293 (by omega)]
          · show R (59 * c + 2 + i) = _
            rw [v3 i (by have := hR.1.2.2; omega), f1 290 (by omega)]
          · show R (59 * c + 8 + i) = _
            rw [v4 i (by have := hR.1.2.2; omega), f1 291 (by omega)]
          · show R (59 * c + 14 + i) = _
            rw [v5 i (by have := hR.1.2.2; omega), f1 292 (by omega)]
        · rw [es c hc, ej]; exact hG
      · have jc := jI c hc
        have e295 : ∀ x, x < 59 → S2 295 (59 * c + x) = S 295 (59 * c + x) := fun x hx => by
          rw [s295, v7 _ (by omega), am_u_ne _ (by omega), f1 295 (by omega)]
        have e4 : S2 (258 + 9 * c) 4 = S (258 + 9 * c) 4 := by
          rw [f2 _ (by omega) (by omega), ← hS1, am_ovl_ne _ _ (by omega)]
        unfold JI1 at jc ⊢
        rw [s296, am_u_ni _ z, f1 296 (by omega), es c hc, en c hc z, e4]
        rcases jc with h | ⟨h1, g', n', h2, h3, h4⟩
        · exact Or.inl h
        · refine Or.inr ⟨h1, g', n', h2, mR_c h3 ?_ ?_ (fun i hi => ?_) (fun i hi => ?_) (fun i hi => ?_) (fun i hi => ?_), h4⟩
          · exact e295 0 (by omega)
          · exact e295 1 (by omega)
          · show S2 295 (59 * c + 20 + i) = S 295 (59 * c + 20 + i)
            rw [Nat.add_assoc]; exact e295 _ (by omega)
          · show S2 295 (59 * c + 2 + i) = S 295 (59 * c + 2 + i)
            rw [Nat.add_assoc]; exact e295 _ (by have := h3.1.2.2; omega)
          · show S2 295 (59 * c + 8 + i) = S 295 (59 * c + 8 + i)
            rw [Nat.add_assoc]; exact e295 _ (by have := h3.1.2.2; omega)
          · show S2 295 (59 * c + 14 + i) = S 295 (59 * c + 14 + i)
            rw [Nat.add_assoc]; exact e295 _ (by have := h3.1.2.2; omega)
    · rcases hw with rfl | rfl | ⟨c, hc, rfl⟩ | ⟨c, hc, rfl⟩
      · rw [am_sub_c (S' := S2) (S := S) (fun a h1 h2 => q a (by omega))]
        exact jC 20 isW20
      · rw [am_sub_c (S' := S2) (S := S) (fun a h1 h2 => q a (by omega))]
        exact jC 29 isW29
      · rw [am_sub_c (S' := S2) (S := S) (fun a h1 h2 => q a (by omega))]
        exact jC _ (isW_past hc)
      · rw [es c hc]
        by_cases z : c = j
        · subst z; rw [ej]; exact jC 20 isW20
        · rw [en c hc z]; exact jC _ (isW_kept hc)
  · have hgm := fun z => hg (hiff.mpr z)
    refine bo_ro (v := .int (eg_k_image S p)) J0 (wg_k_image (d := 31) hg am_is_i) (wg_m_image (d := 31) hgm ⟨?_, rfl⟩)
    unfold eg_k_image eg_m_image
    rw [eg_im not_or (gs_iff jW)]
theorem bo_restore (J : JJ S) (p : Int32) : BO X 129 220 [.int p] S L := by
  have J0 := J
  obtain ⟨g, n, m, k, jR, jT, jF, jW, jK, jA, jI, jP, jQ, jC⟩ := J
  by_cases hp : ¬ (p < 0 ∨ 1 < p)
  · have hp2 := not_or.mp hp
    obtain ⟨j, -, hj, rfl⟩ := go_i (a := 0) (b := 1) (by omega) (by omega) hp
    have ec : (nI j).toNatClampNeg = j := nI_clamp (by omega)
    rcases jI j (by omega) with ⟨h1, h2⟩ | ⟨h1, g', n', hn1, hR, hG⟩
    · refine bo_ro (v := .int (-1000002)) J0 (wg_k_restore (d := 31) (fun _ => ix_n (by omega) (by omega)) (fun z => z.2 ?_) ⟨?_, rfl⟩) (wg_m_restore (d := 31) (fun _ => ix_n (by omega) (by omega)) (fun z => z.2 ?_) ⟨?_, rfl⟩)
      · rw [ec, Nat.add_zero, h2]; decide
      · unfold eg_k_restore; rw [if_neg hp, ec, Nat.add_zero, h2, if_pos (by decide)]
      · rw [ec, h1]
      · unfold eg_m_restore; rw [if_pos hp2, ec, if_pos h1]
    · have hW4 : S (258 + 9 * j) 4 = nI n' := by
        have := hR.1.1
        exact this
      have hn6 := hR.1.2.2
      obtain ⟨m24, k24, m1, k1, k2, -⟩ := jA
      unfold BO
      refine wv_k_restore (d := 31) ⟨hp, by rw [Nat.add_zero, hW4]; exact nI_nle (by omega) (by omega)⟩ (jC 20 isW20) (jC _ (isW_kept (by omega))) (fun _ => by omega) (by omega) ⟨_, _, _, rfl, rfl, ?_⟩
      have hcw := jC _ (isW_kept (m := j) (by omega))
      generalize hS1 : am_u (am_u (am_ovl S 20 (am_sub S (258 + 9 * j))) 38 2 0) 277 3 0 = S1
      have f1 : ∀ a, ¬ (20 ≤ a ∧ a < 29) → a ≠ 38 → a ≠ 277 → S1 a = S a := fun a c1 c2 c3 => by rw [← hS1, am_u_ne _ c3, am_u_ne _ c2, am_ovl_ne _ _ (by omega)]
      have s20 : am_sub S1 20 = am_sub S (258 + 9 * j) := by
        rw [am_sub_c (S' := S1) (S := am_ovl S 20 (am_sub S (258 + 9 * j))) (fun a c1 c2 => by rw [← hS1, am_u_ne _ (by omega), am_u_ne _ (by omega)]), am_sub_s S hcw]
      have s1 : S1 38 1 = nI m := by rw [← hS1, am_u_ne _ (by omega), am_u_ni _ (by omega), am_ovl_ne _ _ (by omega), m1]
      have s2 : S1 38 2 = 0 := by rw [← hS1, am_u_ne _ (by omega), am_u_eq]
      have s3 : S1 277 3 = 0 := by rw [← hS1, am_u_eq]
      have g296 : S1 296 = S 296 := f1 296 (by omega) (by omega) (by omega)
      have g295 : S1 295 = S 295 := f1 295 (by omega) (by omega) (by omega)
      refine wv_m_restore (d := 31) ⟨hp2, by rw [g296, h1]; decide⟩ (fun _ => by omega) (by omega) (by omega) (by omega) (by omega) (by omega) (by omega) ⟨rfl, _, _, rfl, ?_⟩
      rw [g295]
      generalize hS2 : am_u (am_uc _ 293 _) 285 14 0 = S2
      have f2 : ∀ a, a ≠ 285 → ¬ (290 ≤ a ∧ a < 294) → S2 a = S1 a := fun a c1 c2 => by
        rw [← hS2, am_u_ne _ c1, am_uc_ne _ (by omega), am_uc_ne _ (by omega), am_uc_ne _ (by omega), am_uc_ne _ (by omega), am_u_ne _ c1, am_u_ne _ c1]
      have e7 : S2 285 7 = S 295 (59 * j) := by
        rw [← hS2, am_u_ni _ (by omega), am_uc_ne _ (by omega), am_uc_ne _ (by omega), am_uc_ne _ (by omega), am_uc_ne _ (by omega), am_u_ni _ (by omega), am_u_eq]
      have e8 : S2 285 8 = S 295 (59 * j + 1) := by
        rw [← hS2, am_u_ni _ (by omega), am_uc_ne _ (by omega), am_uc_ne _ (by omega), am_uc_ne _ (by omega), am_uc_ne _ (by omega), am_u_eq]
      have e14 : S2 285 14 = 0 := by rw [← hS2, am_u_eq]
      have e5 : ∀ i, i ≠ 14 → i ≠ 7 → i ≠ 8 → S2 285 i = S1 285 i := fun i c1 c2 c3 => by
        rw [← hS2, am_u_ni _ c1, am_uc_ne _ (by omega), am_uc_ne _ (by omega), am_uc_ne _ (by omega), am_uc_ne _ (by omega), am_u_ni _ c3, am_u_ni _ c2]
      have e290 : ∀ i, i < 6 → S2 290 i = S 295 (59 * j + 2 + i) := fun i hi => by
        rw [← hS2, am_u_ne _ (by omega), am_uc_ne _ (by omega), am_uc_ne _ (by omega), am_uc_ne _ (by omega), am_uc_eq]
        unfold va_cpy
        rw [if_pos (by omega)]
        congr 1
      have e291 : ∀ i, i < 6 → S2 291 i = S 295 (59 * j + 8 + i) := fun i hi => by
        rw [← hS2, am_u_ne _ (by omega), am_uc_ne _ (by omega), am_uc_ne _ (by omega), am_uc_eq]
        unfold va_cpy
        rw [if_pos (by omega)]
        congr 1
      have e292 : ∀ i, i < 6 → S2 292 i = S 295 (59 * j + 14 + i) := fun i hi => by
        rw [← hS2, am_u_ne _ (by omega), am_uc_ne _ (by omega), am_uc_eq]
        unfold va_cpy
        rw [if_pos (by omega)]
        congr 1
      have e293 : ∀ i, i < 39 → S2 293 i = S 295 (59 * j + 20 + i) := fun i hi => by
        rw [← hS2, am_u_ne _ (by omega), am_uc_eq]
        unfold va_cpy
        rw [if_pos (by omega)]
        congr 1
      have s20' : am_sub S2 20 = am_sub S (258 + 9 * j) := by
        rw [am_sub_c (S' := S2) (S := S1) (fun a c1 c2 => f2 a (by omega) (by omega)), s20]
      refine JJ_mk (S := S) (g := g') (n := n') (m := m) (k := 0) jR jT jF jK jI jQ jC (Or.inr ⟨hn1, ?_, ?_⟩) ⟨m24, by omega, ?_, ?_, e14, fun _ => rfl, fun j hj => by omega⟩ ?_ ?_ (fun a c1 c2 c3 c4 c5 => ?_) (fun i c1 c2 c3 => ?_)
      · rw [s20']
        exact mR_c hR e7 e8 e293 (fun i hi => e290 i (by omega)) (fun i hi => e291 i (by omega)) (fun i hi => e292 i (by omega))
      · rw [s20']; exact hG
      · rw [f2 38 (by omega) (by omega), s1]
      · rw [f2 38 (by omega) (by omega), s2]; rfl
      · rw [s20']; exact hcw
      · rw [f2 277 (by omega) (by omega), s3]
      · rw [f2 a c4 c5, f1 a c1 c2 c3]
      · rw [e5 i c1 c2 c3, f1 285 (by omega) (by omega) (by omega)]
  · have hp2 : ¬ (¬ p < 0 ∧ ¬ 1 < p) := fun z => hp (not_or.mpr z)
    have hp' := Decidable.not_not.mp hp
    refine bo_ro (v := .int (-1000001)) J0 (wg_k_restore (d := 31) (fun c => absurd c hp) (fun z => hp z.1) ⟨?_, rfl⟩) (wg_m_restore (d := 31) (fun c => absurd c hp2) (fun z => hp2 z.1) ⟨?_, rfl⟩)
    · unfold eg_k_restore; rw [if_pos hp']
    · unfold eg_m_restore; rw [if_neg hp2]
end BACK
