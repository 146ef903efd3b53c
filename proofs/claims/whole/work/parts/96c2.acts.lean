theorem mF_notes {S S3 : Nat → Nat → Int32} {g n : Nat} (h : mF S g n) (b1 : ∀ a, a ≠ 285 → a ≠ 294 → S3 a = S a) (b2 : ∀ i, i ≠ 14 → S3 285 i = S 285 i) : mF S3 g n := by
  unfold mF
  rw [b2 7 (by omega), b2 8 (by omega), b1 297 (by omega) (by omega)]
  exact h
theorem wF_keep {S S3 : Nat → Nat → Int32} {g n m : Nat} (h : wF (am_sub S 20) g n) (hm : m < 24) (b1 : ∀ a, ¬ (40 + 9 * m ≤ a ∧ a < 49 + 9 * m) → a ≠ 38 → a ≠ 277 → S3 a = S a) : wF (am_sub S3 20) g n := by
  rw [am_sub_c (S' := S3) (S := S) (fun a h1 h2 => b1 a (by omega) (by omega) (by omega))]
  exact h
