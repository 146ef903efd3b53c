/-! What keeps the invariant. -/
section JCON
variable {X : Nat × (Nat → Int32)} {S S' : Nat → Nat → Int32} {L : Nat → Int64} {g n m k : Nat}
theorem am_sub_c {w : Nat} (h : ∀ a, w ≤ a → a < w + 9 → S' a = S a) : am_sub S' w = am_sub S w := by
  funext j
  unfold am_sub
  by_cases q : j < 9
  · rw [if_pos q, if_pos q, h _ (by omega) (by omega)]
  · rw [if_neg q, if_neg q]
theorem JR_c (j : JR S) (h1 : ∀ a, 8 ≤ a → a < 18 → S' a = S a) (h2 : ∀ a, 286 ≤ a → a < 289 → S' a = S a) : JR S' := by
  unfold JR
  rw [h1 16 (by omega) (by omega), h1 17 (by omega) (by omega), h2 286 (by omega) (by omega), h2 287 (by omega) (by omega), h2 288 (by omega) (by omega)]
  refine ⟨j.1, fun r i hr hi => ?_⟩
  rw [h1 _ (by omega) (by omega)]
  exact j.2 r i hr hi
theorem JT_c (j : JT S) (h1 : S' 18 2 = S 18 2) (h2 : S' 285 5 = S 285 5) (h3 : S' 19 = S 19) (h4 : S' 289 = S 289) : JT S' := by
  unfold JT
  rw [h1, h2, h3, h4]
  exact j
theorem JF_c (j : JF S) (h1 : S' 5 12 = S 5 12) (h2 : S' 5 11 = S 5 11) (h3 : S' 285 3 = S 285 3) (h4 : S' 285 6 = S 285 6) : JF S' := by
  unfold JF
  rw [h1, h2, h3, h4]
  exact j
theorem mR_c {W : Nat → Nat → Int32} {s s' : Nat} (h : mR W S s g n) (h7 : S' 285 7 = S 285 7) (h8 : S' 285 8 = S 285 8) (hs : ∀ i, i < 39 → S' s' i = S s i) (h0 : ∀ p, p < n → S' 290 p = S 290 p) (h1 : ∀ p, p < n → S' 291 p = S 291 p) (h2 : ∀ p, p < n → S' 292 p = S 292 p) : mR W S' s' g n := by
  obtain ⟨⟨a1, a2, a3⟩, b, ⟨q, c1, c2, c3⟩, d1, d2, d3, e1, e2, e3, e4, e5, e6⟩ := h
  refine ⟨⟨a1, by rw [h7]; exact a2, a3⟩, ⟨b.1, by rw [h8]; exact b.2.1, b.2.2⟩, ⟨q, c1, c2, by rw [hs 1 (by omega)]; exact c3⟩, by rw [hs 2 (by omega)]; exact d1, by rw [hs 0 (by omega)]; exact d2, fun i hi => by rw [hs _ (by omega)]; exact d3 i hi, fun p hp => by rw [h0 p hp, h1 p hp, h2 p hp]; exact e1 p hp, fun p hp => by rw [hs _ (by omega), hs _ (by omega), hs _ (by omega)]; exact e2 p hp, fun p hp => by rw [hs _ (by omega)]; exact e3 p hp, e4, e5, e6⟩
theorem JW_c (j : JW S g n) (h : ∀ a, 20 ≤ a → a < 29 → S' a = S a) (h7 : S' 285 7 = S 285 7) (h8 : S' 285 8 = S 285 8) (h2 : ∀ a, 290 ≤ a → a < 294 → S' a = S a) : JW S' g n := by
  have e : am_sub S' 20 = am_sub S 20 := am_sub_c (w := 20) h
  unfold JW
  rw [h 20 (by omega) (by omega), h7, h8, h2 293 (by omega) (by omega), e]
  rcases j with j | ⟨j1, j2, j3⟩
  · exact Or.inl j
  · refine Or.inr ⟨j1, mR_c j2 h7 h8 (fun i _ => ?_) (fun p _ => ?_) (fun p _ => ?_) (fun p _ => ?_), j3⟩
    · rw [h2 293 (by omega) (by omega)]
    · rw [h2 290 (by omega) (by omega)]
    · rw [h2 291 (by omega) (by omega)]
    · rw [h2 292 (by omega) (by omega)]
theorem JK_c (j : JK S) (h : S' 297 = S 297) : JK S' := by
  unfold JK
  rw [h]
  exact j
theorem JA_c (j : JA S g n m k) (h1 : S' 38 1 = S 38 1) (h2 : S' 38 2 = S 38 2) (h3 : S' 285 14 = S 285 14) (h7 : S' 285 7 = S 285 7) (h8 : S' 285 8 = S 285 8) (h0 : ∀ a, 290 ≤ a → a < 293 → S' a = S a) (h4 : S' 294 = S 294) (h5 : ∀ a, 40 ≤ a → a < 256 → S' a = S a) : JA S' g n m k := by
  unfold JA
  rw [h1, h2, h3, h7, h8, h4, h0 290 (by omega) (by omega), h0 291 (by omega) (by omega), h0 292 (by omega) (by omega)]
  obtain ⟨j1, j2, j3, j4, j5, j6, j7⟩ := j
  refine ⟨j1, j2, j3, j4, j5, j6, fun i hi => ?_⟩
  rw [am_sub_c (S' := S') (S := S) (fun a h h' => h5 a (by omega) (by omega))]
  exact j7 i hi
theorem JI_c (j : JI S) (h1 : ∀ a, 258 ≤ a → a < 276 → S' a = S a) (h2 : S' 295 = S 295) (h3 : S' 296 = S 296) : JI S' := by
  intro k hk
  unfold JI1
  rw [h2, h3, am_sub_c (S' := S') (S := S) (w := 258 + 9 * k) (fun a h h' => h1 a (by omega) (by omega)), h1 (258 + 9 * k) (by omega) (by omega)]
  exact j k hk
theorem JP_c (j : JP S g n) (h1 : S' 277 3 = S 277 3) (h2 : S' 277 6 = S 277 6) (h3 : S' 279 = S 279) (h : ∀ a, 20 ≤ a → a < 29 → S' a = S a) : JP S' g n := by
  unfold JP
  rw [h1, h2, h3, am_sub_c (w := 20) h]
  exact j
theorem JQ_c (j : JQ S) (h1 : S' 283 2 = S 283 2) (h2 : S' 285 20 = S 285 20) (h3 : S' 284 = S 284) (h4 : S' 299 = S 299) : JQ S' := by
  unfold JQ
  rw [h1, h2, h3, h4]
  exact j
theorem JC_c (j : JC S) (h : ∀ a, 20 ≤ a → a < 276 → ¬ (29 ≤ a ∧ a < 38) → S' a = S a) (h9 : w_cl (am_sub S' 29)) : JC S' := by
  intro w hw
  rcases hw with rfl | rfl | ⟨i, hi, rfl⟩ | ⟨i, hi, rfl⟩
  · rw [am_sub_c (S' := S') (S := S) (fun a h1 h2 => h a (by omega) (by omega) (by omega))]
    exact j 20 isW20
  · exact h9
  · rw [am_sub_c (S' := S') (S := S) (fun a h1 h2 => h a (by omega) (by omega) (by omega))]
    exact j _ (isW_past hi)
  · rw [am_sub_c (S' := S') (S := S) (fun a h1 h2 => h a (by omega) (by omega) (by omega))]
    exact j _ (isW_kept hi)
/-- cells that only serve for a while -/
def scr (a : Nat) : Prop := (29 ≤ a ∧ a < 38) ∨ a = 277 ∨ a = 278 ∨ a = 282 ∨ a = 298 ∨ a = 304 ∨ a = 305
/-- all else is as it was -/
def FR (S S' : Nat → Nat → Int32) : Prop := (∀ a, ¬ scr a → S' a = S a) ∧ S' 277 3 = S 277 3 ∧ S' 277 6 = S 277 6 ∧ w_cl (am_sub S' 29)
theorem FR_r (hc : w_cl (am_sub S 29)) : FR S S := ⟨fun _ _ => rfl, rfl, rfl, hc⟩
theorem FR_t {S2 : Nat → Nat → Int32} (h1 : FR S S') (h2 : FR S' S2) : FR S S2 := ⟨fun a ha => (h2.1 a ha).trans (h1.1 a ha), h2.2.1.trans h1.2.1, h2.2.2.1.trans h1.2.2.1, h2.2.2.2⟩
theorem FR_o {W : Nat → Nat → Int32} (hc : w_cl W) : FR S (am_ovl S 29 W) := by
  refine ⟨fun a ha => ?_, rfl, rfl, by rw [am_sub_s S hc]; exact hc⟩
  unfold scr at ha
  unfold am_ovl
  rw [if_neg (by omega)]
/-- one scratch cell of the model's -/
theorem FR_1 {s : Nat} (hc : w_cl (am_sub S 29)) (hs : s = 298 ∨ s = 304 ∨ s = 305 ∨ s = 278 ∨ s = 282) (h : ∀ a, a ≠ s → S' a = S a) : FR S S' := by
  refine ⟨fun a ha => h a (by unfold scr at ha; omega), by rw [h 277 (by omega)], by rw [h 277 (by omega)], ?_⟩
  rw [am_sub_c (S' := S') (S := S) (fun a h1 h2 => h a (by omega))]
  exact hc
theorem JJ_scr (J : JJ S) (h : FR S S') : JJ S' := by
  obtain ⟨g, n, m, k, jR, jT, jF, jW, jK, jA, jI, jP, jQ, jC⟩ := J
  obtain ⟨h, h3, h6, hc⟩ := h
  have hh : ∀ a, ¬ scr a → ∀ i, S' a i = S a i := fun a ha i => by rw [h a ha]
  have q : ∀ a, (a < 29 ∨ (38 ≤ a ∧ a < 277) ∨ a = 279 ∨ a = 280 ∨ a = 281 ∨ a = 283 ∨ a = 284 ∨ (285 ≤ a ∧ a < 298) ∨ a = 299) → S' a = S a := fun a ha => h a (by unfold scr; omega)
  have qi : ∀ a i, (a < 29 ∨ (38 ≤ a ∧ a < 277) ∨ a = 279 ∨ a = 280 ∨ a = 281 ∨ a = 283 ∨ a = 284 ∨ (285 ≤ a ∧ a < 298) ∨ a = 299) → S' a i = S a i := fun a i ha => by rw [q a ha]
  refine ⟨g, n, m, k, JR_c jR ?_ ?_, JT_c jT ?_ ?_ ?_ ?_, JF_c jF ?_ ?_ ?_ ?_, JW_c jW ?_ ?_ ?_ ?_, JK_c jK ?_, JA_c jA ?_ ?_ ?_ ?_ ?_ ?_ ?_ ?_, JI_c jI ?_ ?_ ?_, JP_c jP h3 h6 ?_ ?_, JQ_c jQ ?_ ?_ ?_ ?_, JC_c jC ?_ hc⟩
  all_goals first | (apply q; omega) | (apply qi; omega) | (intro a ha hb; apply q; omega) | (intro a ha hb hd; apply q; omega)
end JCON
