/-! Away. -/
def fac (p T s i : Nat) : Nat := if T.testBit i = true then (if s.testBit i = true then p else 10 - p) else 1
def pc (p T s : Nat) : Nat → Nat → Nat → Nat
  | 0, _, a => a
  | k + 1, i, a => pc p T s k (i + 1) (a * fac p T s i)
def bcn (T : Nat) : Nat → Nat → Nat → Nat
  | 0, _, a => a
  | k + 1, i, a => bcn T k (i + 1) (if T.testBit i = true then a + 1 else a)
def pcnt (T : Nat) : Nat := bcn T 6 0 0
def sumN (f : Nat → Nat) : Nat → Nat → Nat → Nat
  | 0, _, a => a
  | k + 1, s, a => sumN f k (s + 1) (a + f s)
def ca (p T s : Nat) : Nat := if s &&& T = s then pc p T s 6 0 1 else 0
def cc (p T : Nat) (ok : Nat → Bool) (s : Nat) : Nat := if s &&& T = s ∧ ok s = true then pc p T s 6 0 1 else 0
set_option maxRecDepth 100000 in
theorem aw_dec : ((List.range 64).all fun T => (List.range 11).all fun p => sumN (ca p T) 64 0 0 == 10 ^ pcnt T) = true := by decide +kernel
theorem aw_all {p T : Nat} (hT : T < 64) (hp : p ≤ 10) : sumN (ca p T) 64 0 0 = 10 ^ pcnt T := eq_of_beq (List.all_eq_true.mp (List.all_eq_true.mp aw_dec T (List.mem_range.mpr hT)) p (List.mem_range.mpr (by omega)))
theorem sumN_z (f : Nat → Nat) (m : Nat) (h : ∀ s, m ≤ s → f s = 0) : ∀ k s a, m ≤ s → sumN f k s a = a := by
  intro k
  induction k with
  | zero => intro s a _; rfl
  | succ k ih =>
    intro s a hs
    show sumN f k (s + 1) (a + f s) = a
    rw [h s hs, Nat.add_zero]
    exact ih (s + 1) a (by omega)
theorem sumN_cut (f : Nat → Nat) (m : Nat) (h : ∀ s, m ≤ s → f s = 0) (r : Nat) : ∀ k s a, s + k = m → sumN f (k + r) s a = sumN f k s a := by
  intro k
  induction k with
  | zero =>
    intro s a hs
    rw [Nat.zero_add]
    exact sumN_z f m h r s a (by omega)
  | succ k ih =>
    intro s a hs
    rw [show k + 1 + r = (k + r) + 1 by omega]
    exact ih (s + 1) (a + f s) (by omega)
theorem sumN_le (f f' : Nat → Nat) (h : ∀ s, f s ≤ f' s) : ∀ k s a a', a ≤ a' → sumN f k s a ≤ sumN f' k s a' := by
  intro k
  induction k with
  | zero => intro s a a' ha; exact ha
  | succ k ih =>
    intro s a a' ha
    exact ih (s + 1) _ _ (by have := h s; omega)
theorem fac_le {p T s i : Nat} (hp : p ≤ 10) : fac p T s i ≤ 10 := by
  unfold fac
  split
  · split <;> omega
  · omega
theorem pc_le {p T s : Nat} (hp : p ≤ 10) : ∀ k i a, pc p T s k i a ≤ a * 10 ^ k := by
  intro k
  induction k with
  | zero => intro i a; show a ≤ a * 10 ^ 0; rw [Nat.pow_zero, Nat.mul_one]; exact Nat.le_refl a
  | succ k ih =>
    intro i a
    show pc p T s k (i + 1) (a * fac p T s i) ≤ a * 10 ^ (k + 1)
    refine Nat.le_trans (ih (i + 1) _) ?_
    rw [Nat.pow_succ, Nat.mul_assoc, Nat.mul_comm (10 ^ k) 10]
    exact Nat.mul_le_mul_left a (Nat.mul_le_mul_right _ (fac_le hp))
theorem pc_cut {p T s n : Nat} (hT : T < 2 ^ n) (r : Nat) : ∀ k i a, i + k = n → pc p T s (k + r) i a = pc p T s k i a := by
  have hz : ∀ r i a, n ≤ i → pc p T s r i a = a := by
    intro r
    induction r with
    | zero => intro i a _; rfl
    | succ r ih =>
      intro i a hi
      show pc p T s r (i + 1) (a * fac p T s i) = a
      unfold fac
      rw [if_neg (fun z => by have := tb_lt hT z; omega), Nat.mul_one]
      exact ih (i + 1) a (by omega)
  intro k
  induction k with
  | zero => intro i a hi; rw [Nat.zero_add]; exact hz r i a (by omega)
  | succ k ih =>
    intro i a hi
    rw [show k + 1 + r = (k + r) + 1 by omega]
    exact ih (i + 1) _ (by omega)
theorem sub_iff {s T : Nat} (hs : s < 64) : (nI s &&& (nI T ^^^ (-1))) = 0 ↔ s &&& T = s := by
  constructor
  · intro h
    apply Nat.eq_of_testBit_eq
    intro i
    rw [Nat.testBit_and]
    by_cases hi : i < 32
    · have := congrArg (fun x : Int32 => x.toBitVec.getLsbD i) h
      rw [zb_and, zb_xor, zb_m i hi, zb_0, zb_n hi, zb_n hi] at this
      generalize s.testBit i = x at this ⊢
      generalize T.testBit i = y at this ⊢
      cases x <;> cases y <;> first | rfl | exact absurd this (by decide)
    · rw [Nat.testBit_lt_two_pow (Nat.lt_of_lt_of_le hs (show 2 ^ 6 ≤ 2 ^ i from Nat.pow_le_pow_right (by omega) (by omega))), Bool.false_and]
  · intro h
    apply zb_eq
    intro i hi
    have := congrArg (fun x : Nat => x.testBit i) h
    rw [Nat.testBit_and] at this
    rw [zb_and, zb_xor, zb_m i hi, zb_0, zb_n hi, zb_n hi]
    generalize s.testBit i = x at this ⊢
    generalize T.testBit i = y at this ⊢
    cases x <;> cases y <;> first | rfl | exact absurd this (by decide)
theorem sub_lt {s T n : Nat} (hT : T < 2 ^ n) (h : s &&& T = s) : s < 2 ^ n := by
  rw [← h]
  exact Nat.lt_of_le_of_lt Nat.and_le_right hT
set_option maxRecDepth 100000 in
theorem or_dec : ((List.range 64).all fun a => (List.range 6).all fun j => decide ((nI a ||| (1 <<< (nI j &&& 31)) : Int32) = nI (a ||| 2 ^ j))) = true := by decide +kernel
theorem or_n {a j : Nat} (ha : a < 64) (hj : j < 6) : (nI a ||| (1 <<< (nI j &&& 31)) : Int32) = nI (a ||| 2 ^ j) := of_decide_eq_true (List.all_eq_true.mp (List.all_eq_true.mp or_dec a (List.mem_range.mpr ha)) j (List.mem_range.mpr hj))
theorem wh_n (W : Nat → Nat → Int32) (q : Int32) {n : Nat} (hn : n ≤ 6) : ∀ k j a, j + k = n → a < 2 ^ n → ∃ T, T < 2 ^ n ∧ w_wh W q k j (nI a) = nI T := by
  intro k
  induction k with
  | zero => intro j a _ ha; exact ⟨a, ha, rfl⟩
  | succ k ih =>
    intro j a hj ha
    show ∃ T, T < 2 ^ n ∧ w_wh W q k (j + 1) (if W 5 j = q then nI a ||| (1 <<< (nI j &&& 31)) else nI a) = nI T
    by_cases e : W 5 j = q
    · rw [if_pos e, or_n (p2_64 hn ha) (by omega)]
      exact ih (j + 1) _ (by omega) (Nat.or_lt_two_pow ha (Nat.pow_lt_pow_right (by omega) (by omega)))
    · rw [if_neg e]
      exact ih (j + 1) a (by omega) ha
theorem wh_T (W : Nat → Nat → Int32) (q : Int32) {n : Nat} (hn : n ≤ 6) : ∃ T, T < 2 ^ n ∧ w_wh W q n 0 0 = nI T ∧ ∀ i, i < n → (T.testBit i = true ↔ W 5 i = q) := by
  obtain ⟨T, h1, h2⟩ := wh_n W q hn n 0 0 (by omega) (Nat.two_pow_pos n)
  have h2' : w_wh W q n 0 0 = nI T := h2
  refine ⟨T, h1, h2', fun i hi => ?_⟩
  have := wh_bit W q (i := i) (by omega) n 0 0 (by omega)
  rw [h2', zb_n (by omega), zb_0, Bool.false_or] at this
  rw [this, decide_eq_true_iff]
  exact ⟨fun z => z.2, fun z => ⟨by omega, z⟩⟩
/-- the greatest divisor of both -/
def egc : Nat → Nat → Nat → Nat
  | 0, a, _ => a
  | k + 1, a, b => if b = 0 then a else egc k b (a % b)
theorem gcd_s {a b : Nat} : Nat.gcd a b = Nat.gcd b (a % b) := by
  rw [Nat.gcd_comm a b, Nat.gcd_rec b a, Nat.gcd_comm]
theorem half_r {b r : Nat} (h0 : 0 < r) (h : r < b) : 2 * (b % r) < b := by
  by_cases e : 2 * r ≤ b
  · have := Nat.mod_lt b h0; omega
  · rw [Nat.mod_eq_sub_mod (by omega), Nat.mod_eq_of_lt (by omega)]; omega
theorem egc_eq : ∀ k f a b, 2 * k + 1 ≤ f → b < 2 ^ k → egc f a b = Nat.gcd a b := by
  intro k
  induction k with
  | zero =>
    intro f a b hf hb
    have e : b = 0 := by omega
    subst e
    obtain ⟨f', rfl⟩ : ∃ f', f = f' + 1 := ⟨f - 1, by omega⟩
    show (if 0 = 0 then a else _) = _
    rw [if_pos rfl, Nat.gcd_zero_right]
  | succ k ih =>
    intro f a b hf hb
    obtain ⟨f', rfl⟩ : ∃ f', f = f' + 1 + 1 := ⟨f - 2, by omega⟩
    show (if b = 0 then a else (if a % b = 0 then b else egc f' (a % b) (b % (a % b)))) = _
    by_cases e : b = 0
    · rw [if_pos e, e, Nat.gcd_zero_right]
    · rw [if_neg e, gcd_s]
      by_cases e2 : a % b = 0
      · rw [if_pos e2, e2, Nat.gcd_zero_right]
      · rw [if_neg e2, gcd_s]
        have h1 := Nat.mod_lt a (show 0 < b by omega)
        have h2 := half_r (show 0 < a % b by omega) h1
        have h3 : 2 ^ (k + 1) = 2 * 2 ^ k := by rw [Nat.pow_succ, Nat.mul_comm]
        exact ih f' _ _ (by omega) (by omega)
