theorem am_claim : am_Claim := by
  intro L xs hL
  have h := law_st (L, xs) (Q := fun r h => r = some (.int 1) ∧ h.2.1 ≤ 600000 ∧ h.2.2 ≤ 7302250) (fun S LL J => law_lp (X := (L, xs)) hL (fun S L => ⟨rfl, by show 301 ≤ 600000; omega, by show 4118 ≤ 7302250; omega⟩) (L + 1) 0 S LL (by show L < 0 + 6 * (L + 1) + 6; omega) (by omega) J)
  obtain ⟨n, r, h', e, rfl, h1, h2⟩ := h
  exact ⟨n, h', e, h1, h2⟩
