theorem jj_0 {S1 : Nat → Nat → Int32} (j1 : JK S1) (f1 : ∀ a, a ≠ 297 → S1 a = (am_u (am_u (am_u (am_u (am_u (am_u (am_u (am_u xS 287 0 (-1)) 287 1 (-1)) 287 2 (-1)) 287 3 (-1)) 287 4 (-1)) 287 5 (-1)) 287 6 (-1)) 287 7 (-1)) a) : JJ S1 := by
  have z : ∀ a i, a ≠ 297 → a ≠ 287 → a ≠ 17 → S1 a i = 0 := fun a i h1 h2 h3 => by
    rw [f1 a h1, am_u_ne _ h2, am_u_ne _ h2, am_u_ne _ h2, am_u_ne _ h2, am_u_ne _ h2, am_u_ne _ h2, am_u_ne _ h2, am_u_ne _ h2]
    unfold xS
    rw [if_neg h3]
  have h17 : ∀ r, r < 8 → S1 17 r = -1 := fun r hr => by
    rw [f1 17 (by omega), am_u_ne _ (by omega), am_u_ne _ (by omega), am_u_ne _ (by omega), am_u_ne _ (by omega), am_u_ne _ (by omega), am_u_ne _ (by omega), am_u_ne _ (by omega), am_u_ne _ (by omega)]
    match r, hr with
    | 0, _ => rfl
    | 1, _ => rfl
    | 2, _ => rfl
    | 3, _ => rfl
    | 4, _ => rfl
    | 5, _ => rfl
    | 6, _ => rfl
    | 7, _ => rfl
  have h287 : ∀ r, r < 8 → S1 287 r = -1 := fun r hr => by
    rw [f1 287 (by omega)]
    match r, hr with
    | 0, _ => rfl
    | 1, _ => rfl
    | 2, _ => rfl
    | 3, _ => rfl
    | 4, _ => rfl
    | 5, _ => rfl
    | 6, _ => rfl
    | 7, _ => rfl
  refine ⟨0, 0, 0, 0, ⟨fun r hr => ⟨?_, ?_, Or.inl (h17 r hr)⟩, fun r i hr hi => ?_⟩, ⟨⟨0, by omega, z 18 2 (by omega) (by omega) (by omega), z 285 5 (by omega) (by omega) (by omega)⟩, fun i hi => ?_⟩, ⟨?_, ?_⟩, Or.inl ⟨rfl, rfl, z 20 4 (by omega) (by omega) (by omega), z 20 0 (by omega) (by omega) (by omega), z 20 3 (by omega) (by omega) (by omega), z 285 7 (by omega) (by omega) (by omega), z 285 8 (by omega) (by omega) (by omega), z 293 0 (by omega) (by omega) (by omega)⟩, j1, ⟨by omega, by omega, z 38 1 (by omega) (by omega) (by omega), z 38 2 (by omega) (by omega) (by omega), z 285 14 (by omega) (by omega) (by omega), fun _ => rfl, fun j hj => absurd hj (by omega)⟩, fun k hk => Or.inl ⟨z 296 k (by omega) (by omega) (by omega), z (258 + 9 * k) 4 (by omega) (by omega) (by omega)⟩, Or.inl (z 277 3 (by omega) (by omega) (by omega)), ⟨⟨0, by omega, z 283 2 (by omega) (by omega) (by omega), z 285 20 (by omega) (by omega) (by omega)⟩, fun i hi => ?_⟩, fun w hw k i hi => ?_⟩
  · rw [z 16 r (by omega) (by omega) (by omega), z 286 r (by omega) (by omega) (by omega)]
  · rw [h17 r hr, h287 r hr]
  · rw [z (8 + 1 * r) i (by omega) (by omega) (by omega), z 288 _ (by omega) (by omega) (by omega)]
  · rw [z 19 i (by omega) (by omega) (by omega), z 289 i (by omega) (by omega) (by omega)]
  · rw [z 5 12 (by omega) (by omega) (by omega), z 285 3 (by omega) (by omega) (by omega)]
  · rw [z 5 11 (by omega) (by omega) (by omega), z 285 6 (by omega) (by omega) (by omega)]
  · rw [z 284 i (by omega) (by omega) (by omega), z 299 i (by omega) (by omega) (by omega)]
  · unfold am_sub
    by_cases e : k < 9
    · rw [if_pos e]
      have : w + k ≠ 297 ∧ w + k ≠ 287 ∧ w + k ≠ 17 := by
        rcases hw with rfl | rfl | ⟨c, hc, rfl⟩ | ⟨c, hc, rfl⟩ <;> omega
      exact z _ i this.1 this.2.1 this.2.2
    · rw [if_neg e]
