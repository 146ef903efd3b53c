section ACTS
variable {d : Nat} {X : Nat × (Nat → Int32)} {S : Nat → Nat → Int32} {L : Nat → Int64} {g n m k : Nat} {Q : Option Value → am_H → Prop}
theorem am_ovl_ne (S W : Nat → Nat → Int32) {w a : Nat} (h : a < w ∨ w + 9 ≤ a) : am_ovl S w W a = S a := if_neg (by omega)
theorem kt_keep (hm24 : m < 24) (hk24 : k ≤ 24) (hm : S 38 1 = nI m) (hk : S 38 2 = nI k) (hc2 : w_cl (am_sub S (40 + 9 * m))) (hc0 : w_cl (am_sub S 20)) (hQ : ∀ S', am_sub S' (40 + 9 * m) = am_sub S 20 → (∀ a, ¬ (40 + 9 * m ≤ a ∧ a < 49 + 9 * m) → a ≠ 38 → a ≠ 277 → S' a = S a) → S' 38 1 = nI ((m + 1) % 24) → S' 38 2 = nI (min (k + 1) 24) → S' 277 3 = 0 → Q none (am_hh X S' L)) : am_mt (d + 4) 51 [.ref 5] (am_hh X S L) Q := by
  have e38 : am_ovl S (40 + 9 * m) (am_sub S 20) 38 = S 38 := am_ovl_ne _ _ (by omega)
  have c24 : (24 : Int32) ≤ nI m + 1 ↔ m = 23 := by
    rw [nI_1, show (24 : Int32) = nI 24 from rfl, nI_leI (by omega) (by omega)]
    omega
  have k24 : (24 : Int32) ≤ nI k ↔ k = 24 := by
    rw [show (24 : Int32) = nI 24 from rfl, nI_leI (by omega) (by omega)]
    omega
  have hsub : ∀ S2 : Nat → Nat → Int32, (∀ a, 40 + 9 * m ≤ a → a < 40 + 9 * m + 9 → S2 a = am_ovl S (40 + 9 * m) (am_sub S 20) a) → am_sub S2 (40 + 9 * m) = am_sub S 20 := by
    intro S2 h
    rw [am_sub_c h, am_sub_s S hc0]
  have hfr : ∀ a, ¬ (40 + 9 * m ≤ a ∧ a < 49 + 9 * m) → am_ovl S (40 + 9 * m) (am_sub S 20) a = S a := fun a ha => am_ovl_ne _ _ (by omega)
  refine wp_keep hm hc2 hc0 hm24 ?_ ?_ ?_ ?_
  · intro c1 c2
    rw [e38, hm, c24] at c1
    rw [e38, hk, k24] at c2
    subst c1
    subst c2
    refine hQ _ (hsub _ (fun a h1 h2 => ?_)) (fun a h1 h2 h3 => ?_) rfl ?_ rfl
    · rw [am_u_ne _ (by omega), am_u_ne _ (by omega)]
    · rw [am_u_ne _ h3, am_u_ne _ h2, hfr a h1]
    · rw [am_u_ne _ (by omega), am_u_ni _ (by omega), e38, hk]
      rfl
  · intro c1 c2
    rw [e38, hm, c24] at c1
    rw [e38, hk, k24] at c2
    subst c1
    rw [e38, hk]
    refine hQ _ (hsub _ (fun a h1 h2 => ?_)) (fun a h1 h2 h3 => ?_) rfl ?_ rfl
    · rw [am_u_ne _ (by omega), am_u_ne _ (by omega), am_u_ne _ (by omega)]
    · rw [am_u_ne _ h3, am_u_ne _ h2, am_u_ne _ h2, hfr a h1]
    · rw [am_u_ne _ (by omega), am_u_eq, nI_1]
      congr 1
      omega
  · intro c1 c2
    rw [e38, hm, c24] at c1
    rw [e38, hk, k24] at c2
    subst c2
    rw [e38, hm]
    refine hQ _ (hsub _ (fun a h1 h2 => ?_)) (fun a h1 h2 h3 => ?_) ?_ ?_ rfl
    · rw [am_u_ne _ (by omega), am_u_ne _ (by omega)]
    · rw [am_u_ne _ h3, am_u_ne _ h2, hfr a h1]
    · rw [am_u_ne _ (by omega), am_u_eq, nI_1]
      congr 1
      omega
    · rw [am_u_ne _ (by omega), am_u_ni _ (by omega), e38, hk]
      rfl
  · intro c1 c2
    rw [e38, hm, c24] at c1
    rw [e38, hk, k24] at c2
    rw [e38, hm, hk]
    refine hQ _ (hsub _ (fun a h1 h2 => ?_)) (fun a h1 h2 h3 => ?_) ?_ ?_ rfl
    · rw [am_u_ne _ (by omega), am_u_ne _ (by omega), am_u_ne _ (by omega)]
    · rw [am_u_ne _ h3, am_u_ne _ h2, am_u_ne _ h2, hfr a h1]
    · rw [am_u_ne _ (by omega), am_u_ni _ (by omega), am_u_eq, nI_1]
      congr 1
      omega
    · rw [am_u_ne _ (by omega), am_u_eq, nI_1]
      congr 1
      omega
theorem kt_notes (hk24 : k ≤ 24) (hk : S 285 14 = nI k) (hQ : ∀ S', (∀ a, a ≠ 285 → a ≠ 294 → S' a = S a) → (∀ i, i ≠ 14 → S' 285 i = S 285 i) → S' 285 14 = nI (min (k + 1) 24) → (∀ q y, q < min (k + 1) 24 → y < 39 → S' 294 (39 * q + y) = if q + (k + 1 - min (k + 1) 24) < k then S 294 (39 * (q + (k + 1 - min (k + 1) 24)) + y) else S 293 y) → Q none (am_hh X S' L)) : am_mt (d + 2) 172 [.ref 285] (am_hh X S L) Q := by
  have k24 : nI k = 24 ↔ k = 24 := by
    rw [show (24 : Int32) = nI 24 from rfl, nI_eq (by omega) (by omega)]
  refine wp_notes hk (fun c => by rw [c]; decide) (fun c => ?_) (fun _ => by omega) (fun c => ?_) (fun c => ?_)
  · rw [hk, k24] at c; omega
  · rw [hk, k24] at c
    rw [hk]
    refine hQ _ (fun a h1 h2 => ?_) (fun i hi => ?_) ?_ (fun q y hq hy => ?_)
    · rw [am_u_ne _ h1, am_uc_ne _ h2]
    · rw [am_u_ni _ hi, am_uc_ne _ (by omega)]
    · rw [am_u_eq, nI_1]
      congr 1
      omega
    · rw [am_u_ne _ (by omega), am_uc_eq]
      unfold va_cpy
      by_cases e : q = k
      · subst e
        rw [if_pos (by omega), if_neg (by omega)]
        congr 1
        omega
      · rw [if_neg (by omega), if_pos (by omega)]
        congr 1
        omega
  · rw [hk, k24] at c
    subst c
    refine hQ _ (fun a h1 h2 => ?_) (fun i hi => ?_) ?_ (fun q y hq hy => ?_)
    · rw [am_u_ne _ h1, am_uc_ne _ h2, am_u_ne _ h1, am_uc_ne _ h2]
    · rw [am_u_ni _ hi, am_uc_ne _ (by omega), am_u_ni _ hi, am_uc_ne _ (by omega)]
    · rw [am_u_eq, hk]
      decide
    · rw [am_u_ne _ (by omega), am_uc_eq]
      unfold va_cpy
      by_cases e : q = 23
      · subst e
        rw [if_pos (by omega), if_neg (by omega), show 0 + (39 * 23 + y - 39 * 23) = y by omega]
      · rw [if_neg (by omega), if_pos (by omega), if_pos (by omega)]
        congr 1
        omega
end ACTS
