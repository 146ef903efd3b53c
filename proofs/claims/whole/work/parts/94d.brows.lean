section BROWS
variable {X : Nat × (Nat → Int32)} {S S' : Nat → Nat → Int32} {L : Nat → Int64} {g n : Nat}
theorem JJ_rows (J : JJ S) (hR : JR S') (hF : S' 5 12 = S' 285 3) (h : ∀ a, ¬ (8 ≤ a ∧ a < 18) → ¬ (286 ≤ a ∧ a < 289) → a ≠ 5 → a ≠ 285 → S' a = S a) (h5 : S' 5 11 = S 5 11) (h285 : ∀ i, i ≠ 3 → S' 285 i = S 285 i) : JJ S' := by
  obtain ⟨g, n, m, k, jR, jT, jF, jW, jK, jA, jI, jP, jQ, jC⟩ := J
  have q : ∀ a, ¬ (8 ≤ a ∧ a < 18) ∧ ¬ (286 ≤ a ∧ a < 289) ∧ a ≠ 5 ∧ a ≠ 285 → S' a = S a := fun a ha => h a ha.1 ha.2.1 ha.2.2.1 ha.2.2.2
  have qi : ∀ a i, ¬ (8 ≤ a ∧ a < 18) ∧ ¬ (286 ≤ a ∧ a < 289) ∧ a ≠ 5 ∧ a ≠ 285 → S' a i = S a i := fun a i ha => by rw [q a ha]
  have hc : w_cl (am_sub S' 29) := by
    rw [am_sub_c (S' := S') (S := S) (fun a h1 h2 => q a (by omega))]
    exact jC 29 isW29
  refine ⟨g, n, m, k, hR, JT_c jT ?_ ?_ ?_ ?_, ⟨hF, ?_⟩, JW_c jW ?_ ?_ ?_ ?_, JK_c jK ?_, JA_c jA ?_ ?_ ?_ ?_ ?_ ?_ ?_ ?_, JI_c jI ?_ ?_ ?_, JP_c jP ?_ ?_ ?_ ?_, JQ_c jQ ?_ ?_ ?_ ?_, JC_c jC ?_ hc⟩
  all_goals first | (apply q; omega) | (apply qi; omega) | (apply h285; omega) | (intro a ha hb; apply q; omega) | (intro a ha hb hd; apply q; omega) | skip
  rw [h5, h285 6 (by omega)]
  exact jF.2
theorem JJ_f (J : JJ S) (v : Int32) : JJ (am_u (am_u S 5 12 v) 285 3 v) := by
  have J0 := J
  obtain ⟨g, n, m, k, jR, -⟩ := J
  refine JJ_rows J0 (JR_c jR ?_ ?_) rfl ?_ rfl ?_
  · intro a h1 h2; rw [am_u_ne _ (by omega), am_u_ne _ (by omega)]
  · intro a h1 h2; rw [am_u_ne _ (by omega), am_u_ne _ (by omega)]
  · intro a h1 h2 h3 h4; rw [am_u_ne _ h4, am_u_ne _ h3]
  · intro i hi; rw [am_u_at, if_neg (fun z => hi z.2), am_u_ne _ (by decide)]
theorem rw_k (p : Int32) : (¬ p < 0 ∧ ¬ 8 ≤ p) ↔ ∃ a, a < 8 ∧ p = nI a := rng_k (n := 8) (by omega) p
theorem rw_m (p : Int32) : (¬ p < 0 ∧ ¬ 7 < p) ↔ ∃ a, a < 8 ∧ p = nI a := by
  have := rng_i (a := 0) (b := 7) (by omega) (by omega) p
  rw [show (0 : Int32) = nI 0 from rfl, show (7 : Int32) = nI 7 from rfl, this]
  constructor
  · rintro ⟨j, -, h, e⟩; exact ⟨j, by omega, e⟩
  · rintro ⟨j, h, e⟩; exact ⟨j, by omega, by omega, e⟩
theorem ix_8 {p : Int32} (h : ∃ a, a < 8 ∧ p = nI a) : am_ix p 8 = true := by
  obtain ⟨a, ha, rfl⟩ := h
  exact ix_n ha (by omega)
theorem m1_lt : (-1 : Int32) < 0 := by decide
theorem nI_m1 {l : Nat} (h : l < 2 ^ 31) : ¬ nI l = -1 := fun q => nI_pos h (by rw [q]; decide)
/-- a place in a row of l items, from s, c long -/
theorem pl_k {l : Nat} (hl : l ≤ 40) (s t : Int32) : (¬ s < 0 ∧ ¬ t < 0 ∧ ¬ nI l < s ∧ ¬ nI l - s < t) ↔ ∃ f c, f + c ≤ l ∧ s = nI f ∧ t = nI c := by
  constructor
  · rintro ⟨h1, h2, h3, h4⟩
    obtain ⟨f, hf, rfl⟩ := nI_of h1
    obtain ⟨c, hc, rfl⟩ := nI_of h2
    rw [nI_ltI (by omega) hf] at h3
    rw [pk_sub (by omega), nI_ltI (by omega) hc] at h4
    exact ⟨f, c, by omega, rfl, rfl⟩
  · rintro ⟨f, c, h, rfl, rfl⟩
    refine ⟨nI_pos (by omega), nI_pos (by omega), ?_, ?_⟩
    · rw [nI_ltI (by omega) (by omega)]; omega
    · rw [pk_sub (by omega), nI_ltI (by omega) (by omega)]; omega
theorem pl_m {l : Nat} (hl : l ≤ 40) (s t : Int32) : (¬ s < 0 ∧ ¬ t < 0 ∧ ¬ nI l < t ∧ ¬ nI l - t < s) ↔ ∃ f c, f + c ≤ l ∧ s = nI f ∧ t = nI c := by
  constructor
  · rintro ⟨h1, h2, h3, h4⟩
    obtain ⟨f, hf, rfl⟩ := nI_of h1
    obtain ⟨c, hc, rfl⟩ := nI_of h2
    rw [nI_ltI (by omega) hc] at h3
    rw [pk_sub (by omega), nI_ltI (by omega) hf] at h4
    exact ⟨f, c, by omega, rfl, rfl⟩
  · rintro ⟨f, c, h, rfl, rfl⟩
    refine ⟨nI_pos (by omega), nI_pos (by omega), ?_, ?_⟩
    · rw [nI_ltI (by omega) (by omega)]; omega
    · rw [pk_sub (by omega), nI_ltI (by omega) (by omega)]; omega
theorem bo_find {y1 y2 : Nat} {vs : List Value} {v : Value} (k : Int32) (J : JJ S) (h1 : am_mt 39 y1 (.ref 5 :: vs) (am_hh X S L) (am_is X L v (am_u S 5 12 k))) (h2 : am_mt 39 y2 (.ref 285 :: vs) (am_hh X (am_u S 5 12 k) L) (am_is X L v (am_u (am_u S 5 12 k) 285 3 k))) : BO X y1 y2 vs S L := bo_of h1 h2 (JJ_f J k)
theorem is_p {v : Value} {a : Int32} {S1 : Nat → Nat → Int32} {e : Int32 × (Nat → Nat → Int32)} (h : e = (a, S1)) (hv : v = .int a) : am_is X L v S1 (some (.int e.1)) (am_hh X e.2 L) := by
  subst h
  subst hv
  exact ⟨rfl, rfl⟩
theorem ek_drop1 {a : Nat} (hk : ¬ nI a < 0 ∧ ¬ 8 ≤ nI a) (ha : a < 8) (h : S 17 a = -1) : eg_k_drop S (nI a) = (-1000010 - 1, am_u S 5 12 1) := by
  unfold eg_k_drop
  rw [if_pos hk, nI_clamp (by omega), if_pos h]
theorem em_drop1 {a : Nat} (hk : ¬ nI a < 0 ∧ ¬ 7 < nI a) (ha : a < 8) (h : S 287 a = -1) : eg_m_drop S (nI a) = (-1000010 - 1, am_u S 285 3 1) := by
  unfold eg_m_drop
  rw [if_pos hk, nI_clamp (by omega), h, if_neg (by decide)]
theorem bo_drop (J : JJ S) (p : Int32) : BO X 24 156 [.int p] S L := by
  have J0 := J
  obtain ⟨g, n, m, k, jR, -⟩ := J
  by_cases hp : ∃ a, a < 8 ∧ p = nI a
  · have hk := (rw_k p).mpr hp
    have hm := (rw_m p).mpr hp
    have hix := ix_8 hp
    obtain ⟨a, ha, rfl⟩ := hp
    have ec : (nI a).toNatClampNeg = a := nI_clamp (by omega)
    obtain ⟨r1, r2, r3⟩ := jR.1 a ha
    rcases r3 with r3 | ⟨l, hl, r3⟩
    · have r4 : S 287 a = -1 := r2 ▸ r3
      refine bo_find 1 J0 (wg_k_drop (d := 35) (fun _ => hix) ?_ (is_p (ek_drop1 hk ha r3) rfl)) (wg_m_drop (d := 35) (fun _ => hix) ?_ (is_p (em_drop1 hm ha r4) rfl))
      · rintro ⟨-, h⟩; rw [ec] at h; exact h r3
      · rintro ⟨-, h⟩
        rw [ec] at h
        have h' : 0 ≤ S 287 a := h
        rw [r4] at h'
        exact absurd h' (by decide)
    · have hgk : (¬ nI a < 0 ∧ ¬ 8 ≤ nI a) ∧ ¬ (S 17 a = -1) := ⟨hk, by rw [r3]; exact nI_m1 (by omega)⟩
      refine bo_of (v := .int (S 17 a)) (S1 := am_u (am_u S 17 a (-1)) 5 12 0) (S2 := am_u (am_u (am_u (am_u S 17 a (-1)) 5 12 0) 285 3 0) 287 a (-1)) (L1 := L) (L2 := L) (wv_k_drop (d := 35) hgk (fun _ => ha) ha ⟨rfl, rfl⟩) (wv_m_drop (d := 35) ⟨hm, ?_⟩ (fun _ => ha) ha ⟨?_, rfl⟩) ?_
      · show 0 ≤ S 287 a
        rw [← r2, r3]
        exact nI_pos' (by omega)
      · show some (Value.int (S 287 a)) = _
        rw [r2]
      · refine JJ_rows J0 ⟨fun r hr => ?_, fun r i hr hi => ?_⟩ rfl ?_ rfl ?_
        · have := jR.1 r hr
          refine ⟨this.1, ?_, ?_⟩
          · show am_u S 17 a (-1) 17 r = am_u S 287 a (-1) 287 r
            rw [am_u_at, am_u_at]
            by_cases e : r = a
            · rw [if_pos ⟨rfl, e⟩, if_pos ⟨rfl, e⟩]
            · rw [if_neg (fun z => e z.2), if_neg (fun z => e z.2)]
              exact this.2.1
          · show am_u S 17 a (-1) 17 r = -1 ∨ ∃ n, n ≤ 40 ∧ am_u S 17 a (-1) 17 r = nI n
            rw [am_u_at]
            by_cases e : r = a
            · rw [if_pos ⟨rfl, e⟩]; exact Or.inl rfl
            · rw [if_neg (fun z => e z.2)]; exact this.2.2
        · rw [am_u_ne _ (by omega), am_u_ne _ (by omega), am_u_ne _ (by omega), am_u_ne _ (by omega), am_u_ne _ (by omega), am_u_ne _ (by omega), am_u_ne _ (by omega), am_u_ne _ (by omega)]
          exact jR.2 r i hr hi
        · intro b h1 h2 h3 h4; rw [am_u_ne _ (by omega), am_u_ne _ h4, am_u_ne _ h3, am_u_ne _ (by omega)]
        · intro i hi; rw [am_u_ne _ (by decide), am_u_at, if_neg (fun z => hi z.2), am_u_ne _ (by decide), am_u_ne _ (by decide)]
  · have hk : ¬ (¬ p < 0 ∧ ¬ 8 ≤ p) := fun z => hp ((rw_k p).mp z)
    have hm : ¬ (¬ p < 0 ∧ ¬ 7 < p) := fun z => hp ((rw_m p).mp z)
    refine bo_ro (v := .int (-1000001)) J0 (wg_k_drop (d := 35) (fun c => absurd c hk) (fun c => hk c.1) ⟨?_, ?_⟩) (wg_m_drop (d := 35) (fun c => absurd c hm) (fun c => hm c.1) ⟨?_, ?_⟩)
    · unfold eg_k_drop; rw [if_neg hk]
    · unfold eg_k_drop; rw [if_neg hk]
    · unfold eg_m_drop; rw [if_neg hm]
    · unfold eg_m_drop; rw [if_neg hm]
end BROWS
