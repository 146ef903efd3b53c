set_option maxRecDepth 100000 in
theorem am_oy136 : am_chYs 136 170 = true := by decide +kernel
set_option maxRecDepth 100000 in
theorem am_oy170 : am_chYs 170 204 = true := by decide +kernel
set_option maxRecDepth 100000 in
theorem am_oy204 : am_chYs 204 238 = true := by decide +kernel
theorem am_oy {y : Nat} (hy : y < 238) : am_chY y = true := by
  have use : ∀ a b : Nat, am_chYs a b = true → a ≤ y → y < b → am_chY y = true := by
    intro a b h h1 h2
    have h3 := List.all_eq_true.mp h (y - a) (List.mem_range.mpr (by omega))
    rw [show a + (y - a) = y by omega] at h3
    exact h3
  by_cases h34 : y < 34
  · exact use 0 34 am_oy0 (by omega) h34
  by_cases h68 : y < 68
  · exact use 34 68 am_oy34 (by omega) h68
  by_cases h102 : y < 102
  · exact use 68 102 am_oy68 (by omega) h102
  by_cases h136 : y < 136
  · exact use 102 136 am_oy102 (by omega) h136
  by_cases h170 : y < 170
  · exact use 136 170 am_oy136 (by omega) h170
  by_cases h204 : y < 204
  · exact use 170 204 am_oy170 (by omega) h204
  exact use 204 238 am_oy204 (by omega) (by omega)
