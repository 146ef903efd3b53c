/-! Shares. -/
def ro (h r : Nat → Int32) (j : Nat) : Int32 := if h j = 2 then r j else 0
def sh_o (f : Nat → Int32) (q A : Int32) : Nat → Nat → Int32 → Int32
  | 0, _, x => x
  | k + 1, j, x => sh_o f q A k (j + 1) (x - q * f j / A)
def sh_a (f : Nat → Int32) : Nat → Nat → Int32 → Int32
  | 0, _, y => y
  | k + 1, j, y => sh_a f k (j + 1) (if f j ≤ 0 then y else y + 1)
def sh_b (f : Nat → Int32) (t : Nat) : Nat → Nat → Int32 → Int32
  | 0, _, y => y
  | k + 1, j, y => sh_b f t k (j + 1) (if ¬ f j ≤ 0 ∧ j < t then y + 1 else y)
def sh_r (f : Nat → Int32) (q : Int32) (n t : Nat) : Int32 := if w_sum f n 0 0 ≤ 0 ∨ f t = 0 then 0 else if sh_o f q (w_sum f n 0 0) n 0 q ≤ sh_a f t 0 0 then q * f t / w_sum f n 0 0 + 0 else q * f t / w_sum f n 0 0 + 1
theorem sh_b_hi (f : Nat → Int32) (t : Nat) : ∀ k j y, t ≤ j → sh_b f t k j y = y := by
  intro k
  induction k with
  | zero => intro j y _; rfl
  | succ k ih =>
    intro j y hj
    show sh_b f t k (j + 1) (if ¬ f j ≤ 0 ∧ j < t then y + 1 else y) = y
    rw [if_neg (by omega)]
    exact ih (j + 1) y (by omega)
theorem sh_b_a (f : Nat → Int32) (t r : Nat) : ∀ k j y, j + k = t → sh_b f t (k + r) j y = sh_a f k j y := by
  intro k
  induction k with
  | zero =>
    intro j y hj
    rw [Nat.zero_add]
    exact sh_b_hi f t r j y (by omega)
  | succ k ih =>
    intro j y hj
    rw [show k + 1 + r = (k + r) + 1 by omega]
    show sh_b f t (k + r) (j + 1) (if ¬ f j ≤ 0 ∧ j < t then y + 1 else y) = sh_a f k (j + 1) (if f j ≤ 0 then y else y + 1)
    rw [ih (j + 1) _ (by omega)]
    by_cases e : f j ≤ 0
    · rw [if_pos e, if_neg (fun z => z.1 e)]
    · rw [if_neg e, if_pos ⟨e, by omega⟩]
theorem sh_z {n : Nat} {f : Nat → Int32} (hf : ∀ j, j < n → ∃ r, r ≤ 99 ∧ f j = nI r) : ∀ k j a, j + k = n → a ≤ 99 * j → ∃ s, s ≤ 99 * n ∧ w_sum f k j (nI a) = nI s ∧ a ≤ s ∧ (s = a → ∀ i, j ≤ i → i < n → f i = 0) := by
  intro k
  induction k with
  | zero =>
    intro j a hj ha
    exact ⟨a, by omega, rfl, by omega, fun _ i h1 h2 => absurd h2 (by omega)⟩
  | succ k ih =>
    intro j a hj ha
    obtain ⟨r, hr, e⟩ := hf j (by omega)
    obtain ⟨s, h1, h2, h3, h4⟩ := ih (j + 1) (a + r) (by omega) (by omega)
    refine ⟨s, h1, ?_, by omega, fun z i i1 i2 => ?_⟩
    · show w_sum f k (j + 1) (nI a + f j) = nI s
      rw [e, nI_add]
      exact h2
    · by_cases q : i = j
      · subst q
        have : r = 0 := by omega
        rw [e, this]; rfl
      · exact h4 (by omega) i (by omega) i2
section SHARE
variable {d : Nat} {X : Nat × (Nat → Int32)} {S : Nat → Nat → Int32} {L : Nat → Int64} {j : Nat} {x : Int32} {Q : Option Value → am_H → Prop}
theorem kt_ro (hx : x = nI j) (hj : j < 6) (hQ : Q (some (.int (ro (S 25) (S 27) j))) (am_hh X S L)) : am_mt (d + 1) 106 [.ref 20, .int x] (am_hh X S L) Q := by
  subst hx
  exact w_riddenIfOff hj hQ
end SHARE
