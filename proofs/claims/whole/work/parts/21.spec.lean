/-! What a wheel's methods compute. W 0: gondolas, limit, bottom, step, parties; W 1 ballast, 2 kinds, 3 weights, 4 rounds, 5 how, 6 seats, 7 ridden, 8 waited. g gondolas, n parties as numbers. -/
def w_pin (W : Nat → Nat → Int32) (q : Int32) : Nat → Nat → Int32
  | 0, _ => -1000000
  | k + 1, j => if W 5 j = 1 ∧ W 6 j = q then nI j else w_pin W q k (j + 1)
def w_wh (W : Nat → Nat → Int32) (so : Int32) : Nat → Nat → Int32 → Int32
  | 0, _, a => a
  | k + 1, j, a => w_wh W so k (j + 1) (if W 5 j = so then a ||| (1 <<< (nI j &&& 31)) else a)
def w_sum (f : Nat → Int32) : Nat → Nat → Int32 → Int32
  | 0, _, a => a
  | k + 1, j, a => w_sum f k (j + 1) (a + f j)
def w_pf (W : Nat → Nat → Int32) (q low : Int32) : Int32 := if q < low then q - low + W 0 0 else q - low
def w_pull (W : Nat → Nat → Int32) (p : Int32) : Int32 := if W 0 0 < 2 * p then (W 0 0 - p) * (W 0 0 - 2 * p) else p * (W 0 0 - 2 * p)
def w_ln1 (W : Nat → Nat → Int32) (low : Int32) : Nat → Nat → Int32 → Int32
  | 0, _, a => a
  | k + 1, j, a => w_ln1 W low k (j + 1) (if W 1 j = 0 then a else a + W 1 j * w_pull W (w_pf W (nI j) low))
def w_ln2 (W : Nat → Nat → Int32) (low : Int32) : Nat → Nat → Int32 → Int32
  | 0, _, a => a
  | k + 1, j, a => w_ln2 W low k (j + 1) (if W 5 j = 1 then a + W 3 j * w_pull W (w_pf W (W 6 j) low) else a)
def w_lean (W : Nat → Nat → Int32) (g n : Nat) (low : Int32) : Int32 := w_ln2 W low n 0 (w_ln1 W low g 0 0)
def w_abs (x : Int32) : Int32 := if 0 ≤ x then x else -x
def w_bal (W : Nat → Nat → Int32) (x : Int32) : Bool := decide (¬ 10 * W 0 1 < w_abs x)
def w_nb (W : Nat → Nat → Int32) : Int32 := if W 0 0 ≤ W 0 2 + 1 then 0 else W 0 2 + 1
def w_ca (W : Nat → Nat → Int32) (j : Nat) : Nat → Nat → Int32 := am_u (am_u (am_u W 5 j 0) 7 j 0) 8 j 0
def w_dn (W : Nat → Nat → Int32) (g n j : Nat) : Bool :=
  if W 2 j = 2 then decide (¬ W 7 j < W 4 j) && decide (¬ w_wh W 0 n 0 0 = 0)
  else if W 2 j = 3 then decide (¬ W 7 j < 1)
  else if W 2 j = 5 then decide (¬ W 7 j < W 4 j) || (decide (¬ W 7 j < 1) && decide (¬ w_abs (w_lean W g n (W 0 2)) < 5 * W 0 1))
  else decide (¬ W 7 j < W 4 j)
def w_lp (W : Nat → Nat → Int32) (j : Nat) : Bool := if W 2 j = 4 then decide (¬ W 8 j < 5) else if W 2 j = 5 then decide (¬ W 8 j < 2) else false
theorem w_pin_or (W : Nat → Nat → Int32) (q : Int32) : ∀ (k j : Nat), w_pin W q k j = -1000000 ∨ ∃ i, j ≤ i ∧ i < j + k ∧ W 5 i = 1 ∧ W 6 i = q ∧ w_pin W q k j = nI i
  | 0, _ => Or.inl rfl
  | k + 1, j => by
    unfold w_pin
    by_cases h : W 5 j = 1 ∧ W 6 j = q
    · rw [if_pos h]
      exact Or.inr ⟨j, Nat.le_refl _, by omega, h.1, h.2, rfl⟩
    · rw [if_neg h]
      rcases w_pin_or W q k (j + 1) with e | ⟨i, h1, h2, h3, h4, h5⟩
      · exact Or.inl e
      · exact Or.inr ⟨i, by omega, by omega, h3, h4, h5⟩
def w_pi (W : Nat → Nat → Int32) (q : Int32) : Nat → Nat → Option Nat
  | 0, _ => none
  | k + 1, j => if W 5 j = 1 ∧ W 6 j = q then some j else w_pi W q k (j + 1)
theorem w_pin_pi (W : Nat → Nat → Int32) (q : Int32) : ∀ (k j : Nat), w_pin W q k j = (match w_pi W q k j with | none => -1000000 | some i => nI i)
  | 0, _ => rfl
  | k + 1, j => by
    unfold w_pin w_pi
    by_cases h : W 5 j = 1 ∧ W 6 j = q
    · rw [if_pos h, if_pos h]
    · rw [if_neg h, if_neg h]
      exact w_pin_pi W q k (j + 1)
theorem w_pi_lt (W : Nat → Nat → Int32) (q : Int32) : ∀ (k j i : Nat), w_pi W q k j = some i → j ≤ i ∧ i < j + k ∧ W 5 i = 1 ∧ W 6 i = q
  | 0, _, _, h => by cases h
  | k + 1, j, i, h => by
    unfold w_pi at h
    by_cases e : W 5 j = 1 ∧ W 6 j = q
    · rw [if_pos e] at h
      cases h
      exact ⟨Nat.le_refl _, by omega, e.1, e.2⟩
    · rw [if_neg e] at h
      have := w_pi_lt W q k (j + 1) i h
      exact ⟨by omega, by omega, this.2.2⟩
theorem nI_small : ∀ i, i < 12 → ¬ nI i = -1000000 := by decide +kernel
theorem w_pi_n {W : Nat → Nat → Int32} {q : Int32} {n : Nat} (hn : n ≤ 6) (h : w_pin W q n 0 = -1000000) : w_pi W q n 0 = none := by
  rw [w_pin_pi] at h
  cases e : w_pi W q n 0 with
  | none => rfl
  | some i =>
    rw [e] at h
    exact absurd h (nI_small i (by have := (w_pi_lt W q n 0 i e).2.1; omega))
theorem w_pi_s {W : Nat → Nat → Int32} {q : Int32} {n : Nat} (h : ¬ w_pin W q n 0 = -1000000) : ∃ i, i < n ∧ w_pi W q n 0 = some i ∧ w_pin W q n 0 = nI i := by
  rw [w_pin_pi] at h ⊢
  cases e : w_pi W q n 0 with
  | none => rw [e] at h; exact absurd rfl h
  | some i => exact ⟨i, by have := (w_pi_lt W q n 0 i e).2.1; omega, rfl, rfl⟩
def w_lo (W : Nat → Nat → Int32) (g n : Nat) : Nat → Nat → Int32 := match w_pi W (W 0 2) n 0 with
  | none => W
  | some i => if w_dn W g n i = true then am_u W 5 i 2 else W
def w_nx (W : Nat → Nat → Int32) (rk : Nat → Int32) : Nat → Nat → Option Nat
  | 0, _ => none
  | k + 1, i => if (¬ rk i < 0 ∧ ¬ W 0 4 ≤ rk i) ∧ W 5 (rk i).toNatClampNeg = 0 then some (rk i).toNatClampNeg else w_nx W rk k (i + 1)
def w_bd (W : Nat → Nat → Int32) (j : Nat) : Nat → Nat → Int32 := am_u (am_u (am_u W 5 j 1) 6 j (W 0 2)) 7 j 0
def w_li (W : Nat → Nat → Int32) (rk : Nat → Int32) (n : Nat) : Nat → Nat → Int32 := match w_pi W (W 0 2) n 0 with
  | some _ => W
  | none => match w_nx W rk 6 0 with
    | none => W
    | some j => w_bd W j
def w_w1 (W : Nat → Nat → Int32) (j : Nat) : Nat → Nat → Int32 :=
  if W 5 j = 0 then (if w_lp (am_u W 8 j (W 8 j + 1)) j = true then am_u (am_u W 8 j (W 8 j + 1)) 5 j 3 else am_u W 8 j (W 8 j + 1)) else W
def w_wt : Nat → Nat → (Nat → Nat → Int32) → Nat → Nat → Int32
  | 0, _, W => W
  | k + 1, j, W => w_wt k (j + 1) (w_w1 W j)
def w_t1 (W : Nat → Nat → Int32) (n : Nat) : Nat → Nat → Int32 := match w_pi W (W 0 2) n 0 with
  | none => W
  | some i => if 99 ≤ W 7 i then W else am_u W 7 i (W 7 i + 1)
def w_tb (W : Nat → Nat → Int32) (g n : Nat) : Bool := w_bal W (w_lean W g n (w_nb W))
def w_tn (W : Nat → Nat → Int32) (g n : Nat) : Nat → Nat → Int32 := if w_tb W g n = true then w_t1 (am_u W 0 2 (w_nb W)) n else W
/-- a step up to the turning -/
def w_m0 (W : Nat → Nat → Int32) (rk : Nat → Int32) (g n : Nat) : Nat → Nat → Int32 := am_u (w_wt n 0 (w_li (w_lo W g n) rk n)) 0 3 (w_wt n 0 (w_li (w_lo W g n) rk n) 0 3 + 1)
def w_mb (W : Nat → Nat → Int32) (rk : Nat → Int32) (g n : Nat) : Bool := w_tb (w_m0 W rk g n) g n
def w_ms (W : Nat → Nat → Int32) (rk : Nat → Int32) (g n : Nat) : Nat → Nat → Int32 := w_tn (w_m0 W rk g n) g n
theorem am_u_ne (W : Nat → Nat → Int32) {k k' i : Nat} {v : Int32} (h : k' ≠ k) : am_u W k i v k' = W k' := if_neg h
theorem w_lo_0 (W : Nat → Nat → Int32) (g n : Nat) : w_lo W g n 0 = W 0 := by
  unfold w_lo
  cases w_pi W (W 0 2) n 0 with
  | none => rfl
  | some i =>
    dsimp only
    split
    · exact am_u_ne _ (by decide)
    · rfl
theorem w_li_0 (W : Nat → Nat → Int32) (rk : Nat → Int32) (n : Nat) : w_li W rk n 0 = W 0 := by
  unfold w_li
  cases w_pi W (W 0 2) n 0 with
  | some i => rfl
  | none =>
    dsimp only
    cases w_nx W rk 6 0 with
    | none => rfl
    | some j => rfl
theorem w_w1_0 (W : Nat → Nat → Int32) (j : Nat) : w_w1 W j 0 = W 0 := by
  unfold w_w1
  split
  · split <;> rfl
  · rfl
theorem w_wt_0 : ∀ (k j : Nat) (W : Nat → Nat → Int32), w_wt k j W 0 = W 0
  | 0, _, _ => rfl
  | k + 1, j, W => by
    show w_wt k (j + 1) (w_w1 W j) 0 = W 0
    rw [w_wt_0 k (j + 1), w_w1_0]
theorem w_t1_04 (W : Nat → Nat → Int32) (n : Nat) : w_t1 W n 0 = W 0 := by
  unfold w_t1
  cases w_pi W (W 0 2) n 0 with
  | none => rfl
  | some i =>
    dsimp only
    split
    · rfl
    · rfl
theorem w_tn_04 (W : Nat → Nat → Int32) (g n : Nat) : w_tn W g n 0 4 = W 0 4 ∧ w_tn W g n 0 0 = W 0 0 := by
  unfold w_tn
  split
  · rw [w_t1_04]
    exact ⟨rfl, rfl⟩
  · exact ⟨rfl, rfl⟩
theorem w_m0_04 (W : Nat → Nat → Int32) (rk : Nat → Int32) (g n : Nat) : w_m0 W rk g n 0 4 = W 0 4 ∧ w_m0 W rk g n 0 0 = W 0 0 := by
  have e : w_wt n 0 (w_li (w_lo W g n) rk n) 0 = W 0 := by rw [w_wt_0, w_li_0, w_lo_0]
  constructor
  · show w_wt n 0 (w_li (w_lo W g n) rk n) 0 4 = W 0 4
    rw [e]
  · show w_wt n 0 (w_li (w_lo W g n) rk n) 0 0 = W 0 0
    rw [e]
theorem w_ms_04 (W : Nat → Nat → Int32) (rk : Nat → Int32) (g n : Nat) : w_ms W rk g n 0 4 = W 0 4 ∧ w_ms W rk g n 0 0 = W 0 0 := by
  have h1 := w_tn_04 (w_m0 W rk g n) g n
  have h2 := w_m0_04 W rk g n
  exact ⟨h1.1.trans h2.1, h1.2.trans h2.2⟩
def w_sk (rk : Nat → Int32) (g n : Nat) (en : Int32) : Nat → Int32 → (Nat → Nat → Int32) → Int32 × (Nat → Nat → Int32)
  | 0, a, W => (a, W)
  | k + 1, a, W => if en ≤ a then (a, W) else w_sk rk g n en k (if w_mb W rk g n = true then a else a + 1) (w_ms W rk g n)
def w_z1 : Nat → Nat → (Nat → Nat → Int32) → Nat → Nat → Int32
  | 0, _, W => W
  | k + 1, j, W => w_z1 k (j + 1) (am_u W 1 j 0)
def w_bg (W : Nat → Nat → Int32) (ng nl : Int32) : Nat → Nat → Int32 := w_z1 12 0 (am_u (am_u (am_u (am_u (am_u W 0 0 ng) 0 1 nl) 0 2 0) 0 3 0) 0 4 0)
def w_ap (W : Nat → Nat → Int32) (n : Nat) (kd wt rd : Int32) : Nat → Nat → Int32 := w_ca (am_u (am_u (am_u (am_u W 2 n kd) 3 n wt) 4 n rd) 0 4 (W 0 4 + 1)) n
def w_len (k : Nat) : Nat := match k with
  | 0 => 5 | 1 => 12 | 2 => 6 | 3 => 6 | 4 => 6 | 5 => 6 | 6 => 6 | 7 => 6 | 8 => 6 | _ => 0
/-- what lies beyond the places is 0 -/
def w_cl (W : Nat → Nat → Int32) : Prop := ∀ k i, w_len k ≤ i → W k i = 0
theorem w_cl_u {W : Nat → Nat → Int32} (h : w_cl W) {k i : Nat} {v : Int32} (hi : i < w_len k) : w_cl (am_u W k i v) := by
  intro a b hb
  unfold am_u
  by_cases e : a = k
  · rw [if_pos e]
    subst e
    unfold upd
    rw [if_neg (by omega)]
    exact h a b hb
  · rw [if_neg e]
    exact h a b hb
def am_uc (W : Nat → Nat → Int32) (k : Nat) (f : Nat → Int32) : Nat → Nat → Int32 := fun a => if a = k then f else W a
theorem am_ov_setc (h : am_H) (w : Nat) (W : Nat → Nat → Int32) (j : Nat) (f : Nat → Int32) (hj : j < 9) {c : am_C} (hc : c = am_wc w j f) : am_set (am_ov h w W) (w + j) c = am_ov h w (am_uc W j f) := by
  subst hc
  unfold am_set am_ov
  refine Prod.ext (funext fun a => ?_) rfl
  dsimp only
  by_cases e : a = w + j
  · subst e
    rw [if_pos rfl, if_pos (by omega), Nat.add_sub_cancel_left]
    simp [am_uc]
  · rw [if_neg e]
    by_cases q : w ≤ a ∧ a < w + 9
    · rw [if_pos q, if_pos q]
      have : ¬ a - w = j := by omega
      simp [am_uc, this]
    · rw [if_neg q, if_neg q]
theorem va_cpy_cl {f g : Nat → Int32} {n : Nat} (hf : ∀ i, n ≤ i → f i = 0) (hg : ∀ i, n ≤ i → g i = 0) : va_cpy f g 0 0 n = f := by
  funext i
  unfold va_cpy
  by_cases h : 0 ≤ i ∧ i < 0 + n
  · rw [if_pos h]
    congr 1
    omega
  · rw [if_neg h, hf i (by omega), hg i (by omega)]
theorem w_tf {W V : Nat → Nat → Int32} (hW : w_cl W) (hV : w_cl V) : am_uc (am_uc (am_uc (am_uc (am_uc (am_uc (am_uc (am_uc (am_u (am_u (am_u (am_u (am_u W 0 0 (V 0 0)) 0 1 (V 0 1)) 0 2 (V 0 2)) 0 3 (V 0 3)) 0 4 (V 0 4)) 1 (V 1)) 2 (V 2)) 3 (V 3)) 4 (V 4)) 5 (V 5)) 6 (V 6)) 7 (V 7)) 8 (V 8) = V := by
  funext k i
  match k with
  | 0 =>
    match i with
    | 0 => rfl
    | 1 => rfl
    | 2 => rfl
    | 3 => rfl
    | 4 => rfl
    | i + 5 =>
      rw [hV 0 (i + 5) (by simp [w_len])]
      have := hW 0 (i + 5) (by simp [w_len])
      simpa [am_uc, am_u, upd] using this
  | 1 => rfl
  | 2 => rfl
  | 3 => rfl
  | 4 => rfl
  | 5 => rfl
  | 6 => rfl
  | 7 => rfl
  | 8 => rfl
  | k + 9 =>
    rw [hV (k + 9) i (by simp [w_len])]
    have := hW (k + 9) i (by simp [w_len])
    simpa [am_uc, am_u, upd] using this
