/-! What a wheel's methods compute. W 0: gondolas, limit, bottom, step, parties; W 1 ballast, 2 kinds, 3 weights, 4 rounds, 5 how, 6 seats, 7 ridden, 8 waited. g gondolas, n parties as numbers. -/
def w_pin (W : Nat → Nat → Int32) (q : Int32) : Nat → Nat → Int32
  | 0, _ => -1000000
  | k + 1, j => if W 5 j = 1 ∧ W 6 j = q then nI j else w_pin W q k (j + 1)
def w_wh (W : Nat → Nat → Int32) (so : Int32) : Nat → Nat → Int32 → Int32
  | 0, _, a => a
  | k + 1, j, a => w_wh W so k (j + 1) (if W 5 j = so then a ||| (1 <<< (nI j &&& 31)) else a)
def w_sum (f : Nat → Int32) : Nat → Nat → Int32 → Int32
  | 0, _, a => a
  | k + 1, j, a => w_sum f k (j + 1) (a + f j)
def w_pf (W : Nat → Nat → Int32) (q low : Int32) : Int32 := if q < low then q - low + W 0 0 else q - low
def w_pull (W : Nat → Nat → Int32) (p : Int32) : Int32 := if W 0 0 < 2 * p then (W 0 0 - p) * (W 0 0 - 2 * p) else p * (W 0 0 - 2 * p)
def w_ln1 (W : Nat → Nat → Int32) (low : Int32) : Nat → Nat → Int32 → Int32
  | 0, _, a => a
  | k + 1, j, a => w_ln1 W low k (j + 1) (if W 1 j = 0 then a else a + W 1 j * w_pull W (w_pf W (nI j) low))
def w_ln2 (W : Nat → Nat → Int32) (low : Int32) : Nat → Nat → Int32 → Int32
  | 0, _, a => a
  | k + 1, j, a => w_ln2 W low k (j + 1) (if W 5 j = 1 then a + W 3 j * w_pull W (w_pf W (W 6 j) low) else a)
def w_lean (W : Nat → Nat → Int32) (g n : Nat) (low : Int32) : Int32 := w_ln2 W low n 0 (w_ln1 W low g 0 0)
def w_abs (x : Int32) : Int32 := if 0 ≤ x then x else -x
def w_bal (W : Nat → Nat → Int32) (x : Int32) : Bool := decide (¬ 10 * W 0 1 < w_abs x)
def w_nb (W : Nat → Nat → Int32) : Int32 := if W 0 0 ≤ W 0 2 + 1 then 0 else W 0 2 + 1
def w_ca (W : Nat → Nat → Int32) (j : Nat) : Nat → Nat → Int32 := am_u (am_u (am_u W 5 j 0) 7 j 0) 8 j 0
def w_dn (W : Nat → Nat → Int32) (g n j : Nat) : Bool :=
  if W 2 j = 2 then decide (¬ W 7 j < W 4 j) && decide (¬ w_wh W 0 n 0 0 = 0)
  else if W 2 j = 3 then decide (¬ W 7 j < 1)
  else if W 2 j = 5 then decide (¬ W 7 j < W 4 j) || (decide (¬ W 7 j < 1) && decide (¬ w_abs (w_lean W g n (W 0 2)) < 5 * W 0 1))
  else decide (¬ W 7 j < W 4 j)
def w_lp (W : Nat → Nat → Int32) (j : Nat) : Bool := if W 2 j = 4 then decide (¬ W 8 j < 5) else if W 2 j = 5 then decide (¬ W 8 j < 2) else false
theorem w_pin_or (W : Nat → Nat → Int32) (q : Int32) : ∀ (k j : Nat), w_pin W q k j = -1000000 ∨ ∃ i, j ≤ i ∧ i < j + k ∧ W 5 i = 1 ∧ W 6 i = q ∧ w_pin W q k j = nI i
  | 0, _ => Or.inl rfl
  | k + 1, j => by
    unfold w_pin
    by_cases h : W 5 j = 1 ∧ W 6 j = q
    · rw [if_pos h]
      exact Or.inr ⟨j, Nat.le_refl _, by omega, h.1, h.2, rfl⟩
    · rw [if_neg h]
      rcases w_pin_or W q k (j + 1) with e | ⟨i, h1, h2, h3, h4, h5⟩
      · exact Or.inl e
      · exact Or.inr ⟨i, by omega, by omega, h3, h4, h5⟩
