/-! What a wheel's methods compute. W 0: gondolas, limit, bottom, step, parties; W 1 ballast, 2 kinds, 3 weights, 4 rounds, 5 how, 6 seats, 7 ridden, 8 waited. g gondolas, n parties as numbers. -/
def w_pin (W : Nat → Nat → Int32) (q : Int32) : Nat → Nat → Int32
  | 0, _ => -1000000
  | k + 1, j => if W 5 j = 1 ∧ W 6 j = q then nI j else w_pin W q k (j + 1)
def w_wh (W : Nat → Nat → Int32) (so : Int32) : Nat → Nat → Int32 → Int32
  | 0, _, a => a
  | k + 1, j, a => w_wh W so k (j + 1) (if W 5 j = so then a ||| (1 <<< (nI j &&& 31)) else a)
def w_sum (f : Nat → Int32) : Nat → Nat → Int32 → Int32
  | 0, _, a => a
  | k + 1, j, a => w_sum f k (j + 1) (a + f j)
def w_pf (W : Nat → Nat → Int32) (q low : Int32) : Int32 := if q < low then q - low + W 0 0 else q - low
def w_pull (W : Nat → Nat → Int32) (p : Int32) : Int32 := if W 0 0 < 2 * p then (W 0 0 - p) * (W 0 0 - 2 * p) else p * (W 0 0 - 2 * p)
def w_ln1 (W : Nat → Nat → Int32) (low : Int32) : Nat → Nat → Int32 → Int32
  | 0, _, a => a
  | k + 1, j, a => w_ln1 W low k (j + 1) (if W 1 j = 0 then a else a + W 1 j * w_pull W (w_pf W (nI j) low))
def w_ln2 (W : Nat → Nat → Int32) (low : Int32) : Nat → Nat → Int32 → Int32
  | 0, _, a => a
  | k + 1, j, a => w_ln2 W low k (j + 1) (if W 5 j = 1 then a + W 3 j * w_pull W (w_pf W (W 6 j) low) else a)
def w_lean (W : Nat → Nat → Int32) (g n : Nat) (low : Int32) : Int32 := w_ln2 W low n 0 (w_ln1 W low g 0 0)
def w_abs (x : Int32) : Int32 := if 0 ≤ x then x else -x
def w_bal (W : Nat → Nat → Int32) (x : Int32) : Bool := decide (¬ 10 * W 0 1 < w_abs x)
def w_nb (W : Nat → Nat → Int32) : Int32 := if W 0 0 ≤ W 0 2 + 1 then 0 else W 0 2 + 1
def w_ca (W : Nat → Nat → Int32) (j : Nat) : Nat → Nat → Int32 := am_u (am_u (am_u W 5 j 0) 7 j 0) 8 j 0
def w_dn (W : Nat → Nat → Int32) (g n j : Nat) : Bool :=
  if W 2 j = 2 then decide (¬ W 7 j < W 4 j) && decide (¬ w_wh W 0 n 0 0 = 0)
  else if W 2 j = 3 then decide (¬ W 7 j < 1)
  else if W 2 j = 5 then decide (¬ W 7 j < W 4 j) || (decide (¬ W 7 j < 1) && decide (¬ w_abs (w_lean W g n (W 0 2)) < 5 * W 0 1))
  else decide (¬ W 7 j < W 4 j)
def w_lp (W : Nat → Nat → Int32) (j : Nat) : Bool := if W 2 j = 4 then decide (¬ W 8 j < 5) else if W 2 j = 5 then decide (¬ W 8 j < 2) else false
theorem w_pin_or (W : Nat → Nat → Int32) (q : Int32) : ∀ (k j : Nat), w_pin W q k j = -1000000 ∨ ∃ i, j ≤ i ∧ i < j + k ∧ W 5 i = 1 ∧ W 6 i = q ∧ w_pin W q k j = nI i
  | 0, _ => Or.inl rfl
  | k + 1, j => by
    unfold w_pin
    by_cases h : W 5 j = 1 ∧ W 6 j = q
    · rw [if_pos h]
      exact Or.inr ⟨j, Nat.le_refl _, by omega, h.1, h.2, rfl⟩
    · rw [if_neg h]
      rcases w_pin_or W q k (j + 1) with e | ⟨i, h1, h2, h3, h4, h5⟩
      · exact Or.inl e
      · exact Or.inr ⟨i, by omega, by omega, h3, h4, h5⟩
def w_pi (W : Nat → Nat → Int32) (q : Int32) : Nat → Nat → Option Nat
  | 0, _ => none
  | k + 1, j => if W 5 j = 1 ∧ W 6 j = q then some j else w_pi W q k (j + 1)
theorem w_pin_pi (W : Nat → Nat → Int32) (q : Int32) : ∀ (k j : Nat), w_pin W q k j = (match w_pi W q k j with | none => -1000000 | some i => nI i)
  | 0, _ => rfl
  | k + 1, j => by
    unfold w_pin w_pi
    by_cases h : W 5 j = 1 ∧ W 6 j = q
    · rw [if_pos h, if_pos h]
    · rw [if_neg h, if_neg h]
      exact w_pin_pi W q k (j + 1)
theorem w_pi_lt (W : Nat → Nat → Int32) (q : Int32) : ∀ (k j i : Nat), w_pi W q k j = some i → j ≤ i ∧ i < j + k ∧ W 5 i = 1 ∧ W 6 i = q
  | 0, _, _, h => by cases h
  | k + 1, j, i, h => by
    unfold w_pi at h
    by_cases e : W 5 j = 1 ∧ W 6 j = q
    · rw [if_pos e] at h
      cases h
      exact ⟨Nat.le_refl _, by omega, e.1, e.2⟩
    · rw [if_neg e] at h
      have := w_pi_lt W q k (j + 1) i h
      exact ⟨by omega, by omega, this.2.2⟩
theorem nI_small : ∀ i, i < 12 → ¬ nI i = -1000000 := by decide +kernel
theorem w_pi_n {W : Nat → Nat → Int32} {q : Int32} {n : Nat} (hn : n ≤ 6) (h : w_pin W q n 0 = -1000000) : w_pi W q n 0 = none := by
  rw [w_pin_pi] at h
  cases e : w_pi W q n 0 with
  | none => rfl
  | some i =>
    rw [e] at h
    exact absurd h (nI_small i (by have := (w_pi_lt W q n 0 i e).2.1; omega))
theorem w_pi_s {W : Nat → Nat → Int32} {q : Int32} {n : Nat} (h : ¬ w_pin W q n 0 = -1000000) : ∃ i, i < n ∧ w_pi W q n 0 = some i ∧ w_pin W q n 0 = nI i := by
  rw [w_pin_pi] at h ⊢
  cases e : w_pi W q n 0 with
  | none => rw [e] at h; exact absurd rfl h
  | some i => exact ⟨i, by have := (w_pi_lt W q n 0 i e).2.1; omega, rfl, rfl⟩
def w_lo (W : Nat → Nat → Int32) (g n : Nat) : Nat → Nat → Int32 := match w_pi W (W 0 2) n 0 with
  | none => W
  | some i => if w_dn W g n i = true then am_u W 5 i 2 else W
def w_nx (W : Nat → Nat → Int32) (rk : Nat → Int32) : Nat → Nat → Option Nat
  | 0, _ => none
  | k + 1, i => if (¬ rk i < 0 ∧ ¬ W 0 4 ≤ rk i) ∧ W 5 (rk i).toNatClampNeg = 0 then some (rk i).toNatClampNeg else w_nx W rk k (i + 1)
def w_bd (W : Nat → Nat → Int32) (j : Nat) : Nat → Nat → Int32 := am_u (am_u (am_u W 5 j 1) 6 j (W 0 2)) 7 j 0
def w_li (W : Nat → Nat → Int32) (rk : Nat → Int32) (n : Nat) : Nat → Nat → Int32 := match w_pi W (W 0 2) n 0 with
  | some _ => W
  | none => match w_nx W rk 6 0 with
    | none => W
    | some j => w_bd W j
def w_w1 (W : Nat → Nat → Int32) (j : Nat) : Nat → Nat → Int32 :=
  if W 5 j = 0 then (if w_lp (am_u W 8 j (W 8 j + 1)) j = true then am_u (am_u W 8 j (W 8 j + 1)) 5 j 3 else am_u W 8 j (W 8 j + 1)) else W
def w_wt : Nat → Nat → (Nat → Nat → Int32) → Nat → Nat → Int32
  | 0, _, W => W
  | k + 1, j, W => w_wt k (j + 1) (w_w1 W j)
def w_t1 (W : Nat → Nat → Int32) (n : Nat) : Nat → Nat → Int32 := match w_pi W (W 0 2) n 0 with
  | none => W
  | some i => if 99 ≤ W 7 i then W else am_u W 7 i (W 7 i + 1)
def w_tb (W : Nat → Nat → Int32) (g n : Nat) : Bool := w_bal W (w_lean W g n (w_nb W))
def w_tn (W : Nat → Nat → Int32) (g n : Nat) : Nat → Nat → Int32 := if w_tb W g n = true then w_t1 (am_u W 0 2 (w_nb W)) n else W
/-- a step up to the turning -/
def w_m0 (W : Nat → Nat → Int32) (rk : Nat → Int32) (g n : Nat) : Nat → Nat → Int32 := am_u (w_wt n 0 (w_li (w_lo W g n) rk n)) 0 3 (w_wt n 0 (w_li (w_lo W g n) rk n) 0 3 + 1)
def w_mb (W : Nat → Nat → Int32) (rk : Nat → Int32) (g n : Nat) : Bool := w_tb (w_m0 W rk g n) g n
def w_ms (W : Nat → Nat → Int32) (rk : Nat → Int32) (g n : Nat) : Nat → Nat → Int32 := w_tn (w_m0 W rk g n) g n
theorem am_u_ne (W : Nat → Nat → Int32) {k k' i : Nat} {v : Int32} (h : k' ≠ k) : am_u W k i v k' = W k' := if_neg h
theorem w_lo_0 (W : Nat → Nat → Int32) (g n : Nat) : w_lo W g n 0 = W 0 := by
  unfold w_lo
  cases w_pi W (W 0 2) n 0 with
  | none => rfl
  | some i =>
    dsimp only
    split
    · exact am_u_ne _ (by decide)
    · rfl
theorem w_li_0 (W : Nat → Nat → Int32) (rk : Nat → Int32) (n : Nat) : w_li W rk n 0 = W 0 := by
  unfold w_li
  cases w_pi W (W 0 2) n 0 with
  | some i => rfl
  | none =>
    dsimp only
    cases w_nx W rk 6 0 with
    | none => rfl
    | some j => rfl
theorem w_w1_0 (W : Nat → Nat → Int32) (j : Nat) : w_w1 W j 0 = W 0 := by
  unfold w_w1
  split
  · split <;> rfl
  · rfl
theorem w_wt_0 : ∀ (k j : Nat) (W : Nat → Nat → Int32), w_wt k j W 0 = W 0
  | 0, _, _ => rfl
  | k + 1, j, W => by
    show w_wt k (j + 1) (w_w1 W j) 0 = W 0
    rw [w_wt_0 k (j + 1), w_w1_0]
