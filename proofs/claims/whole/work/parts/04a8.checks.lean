theorem am_oy {y : Nat} (hy : y < 239) : am_chY y = true := by
  have use : ∀ a b : Nat, am_chYs a b = true → a ≤ y → y < b → am_chY y = true := by
    intro a b h h1 h2
    have h3 := List.all_eq_true.mp h (y - a) (List.mem_range.mpr (by omega))
    rw [show a + (y - a) = y by omega] at h3
    exact h3
  by_cases h34 : y < 34
  · exact use 0 34 am_oy0 (by omega) h34
  by_cases h68 : y < 68
  · exact use 34 68 am_oy34 (by omega) h68
  by_cases h102 : y < 102
  · exact use 68 102 am_oy68 (by omega) h102
  by_cases h136 : y < 136
  · exact use 102 136 am_oy102 (by omega) h136
  by_cases h153 : y < 153
  · exact use 136 153 am_oy136 (by omega) h153
  by_cases h170 : y < 170
  · exact use 153 170 am_oy153 (by omega) h170
  by_cases h187 : y < 187
  · exact use 170 187 am_oy170 (by omega) h187
  by_cases h204 : y < 204
  · exact use 187 204 am_oy187 (by omega) h204
  by_cases h213 : y < 213
  · exact use 204 213 am_oy204 (by omega) h213
  by_cases h221 : y < 221
  · exact use 213 221 am_oy213 (by omega) h221
  by_cases h230 : y < 230
  · exact use 221 230 am_oy221 (by omega) h230
  exact use 230 239 am_oy230 (by omega) (by omega)
