/-! The wheel's computations and the model's are the same. -/
/-- W is the wheel that the model's row s tells; g gondolas, n parties -/
def mR (W S : Nat → Nat → Int32) (s g n : Nat) : Prop :=
  (W 0 4 = nI n ∧ S 285 7 = nI n ∧ n ≤ 6) ∧ (W 0 0 = nI g ∧ S 285 8 = nI g ∧ 4 ≤ g ∧ g ≤ 12) ∧ (∃ b, b < g ∧ W 0 2 = nI b ∧ S s 1 = nI b) ∧
  S s 2 = W 0 1 ∧ S s 0 = W 0 3 ∧ (∀ i, i < 12 → S s (3 + i) = W 1 i) ∧ (∀ p, p < n → S 290 p = W 2 p ∧ S 291 p = W 3 p ∧ S 292 p = W 4 p) ∧
  (∀ p, p < n → S s (15 + p) = W 5 p ∧ S s (27 + p) = W 7 p ∧ S s (33 + p) = W 8 p) ∧ (∀ p, p < n → S s (21 + p) = if W 5 p = 1 then W 6 p else -1000000) ∧
  (∀ p, p < n → W 5 p = 1 → ∃ q, q < g ∧ W 6 p = nI q) ∧ (∀ p q, p < n → q < n → W 5 p = 1 → W 5 q = 1 → W 6 p = W 6 q → p = q) ∧
  (∀ p, p < n → W 5 p = 0 ∨ W 5 p = 1 ∨ W 5 p = 2 ∨ W 5 p = 3)
def pp_w (G q b : Int32) : Int32 := let p := if q < b then q - b + G else q - b
  if G < 2 * p then (G - p) * (G - 2 * p) else p * (G - 2 * p)
set_option maxRecDepth 100000 in
theorem pp_dec : ((List.range 13).all fun g => (List.range g).all fun q => (List.range g).all fun b => decide (pp_w (nI g) (nI q) (nI b) = m_pull (nI g) (m_pl (nI g) (nI q) (nI b)))) = true := by decide +kernel
theorem pp_eq {W : Nat → Nat → Int32} {g q b : Nat} (hW : W 0 0 = nI g) (hg : g ≤ 12) (hq : q < g) (hb : b < g) : w_pull W (w_pf W (nI q) (nI b)) = m_pull (nI g) (m_pl (nI g) (nI q) (nI b)) := by
  have h1 := List.all_eq_true.mp pp_dec g (List.mem_range.mpr (by omega))
  have h2 := List.all_eq_true.mp h1 q (List.mem_range.mpr hq)
  have h3 := of_decide_eq_true (List.all_eq_true.mp h2 b (List.mem_range.mpr hb))
  rw [← h3]
  unfold w_pull w_pf pp_w
  rw [hW]
section SAME
variable {W S : Nat → Nat → Int32} {s g n : Nat}
theorem mR_ln1 (h : mR W S s g n) {b : Nat} (hb : b < g) : ∀ (k j : Nat) (a : Int32), j + k = g → w_ln1 W (nI b) k j a = m_ln1 S s (nI b) k j a
  | 0, _, _, _ => rfl
  | k + 1, j, a, hj => by
    have hg := h.2.1
    unfold w_ln1 m_ln1
    rw [h.2.2.2.2.2.1 j (by omega), hg.2.1, ← pp_eq hg.1 hg.2.2.2 (show j < g by omega) hb]
    by_cases e : W 1 j = 0
    · rw [if_pos e, e, Int32.zero_mul, Int32.add_zero]
      exact mR_ln1 h hb k (j + 1) a (by omega)
    · rw [if_neg e]
      exact mR_ln1 h hb k (j + 1) _ (by omega)
theorem mR_ln2 (h : mR W S s g n) {b : Nat} (hb : b < g) : ∀ (k j : Nat) (a : Int32), j + k = n → w_ln2 W (nI b) k j a = m_ln2 S s (nI b) k j a
  | 0, _, _, _ => rfl
  | k + 1, j, a, hj => by
    have h0 := h
    have hg := h.2.1
    obtain ⟨-, -, -, -, -, -, hk, hh, hs, hi, -⟩ := h
    unfold w_ln2 m_ln2
    rw [(hh j (by omega)).1, (hk j (by omega)).2.1]
    by_cases e : W 5 j = 1
    · obtain ⟨q, hq, eq⟩ := hi j (by omega) e
      rw [if_pos e, if_pos e, hs j (by omega), if_pos e, eq, hg.2.1, ← pp_eq hg.1 hg.2.2.2 hq hb]
      exact mR_ln2 h0 hb k (j + 1) _ (by omega)
    · rw [if_neg e, if_neg e, Int32.add_zero]
      exact mR_ln2 h0 hb k (j + 1) _ (by omega)
theorem mR_lean (h : mR W S s g n) {b : Nat} (hb : b < g) : w_lean W g n (nI b) = m_lean S s g n (nI b) := by
  unfold w_lean m_lean
  rw [mR_ln1 h hb g 0 0 (by omega), mR_ln2 h hb n 0 _ (by omega)]
theorem mR_wh (h : mR W S s g n) (q : Int32) : ∀ (k j : Nat) (a : Int32), j + k = n → w_wh W q k j a = m_th S s q k j a
  | 0, _, _, _ => rfl
  | k + 1, j, a, hj => by
    have hh := h.2.2.2.2.2.2.2.1
    unfold w_wh m_th
    rw [(hh j (by omega)).1]
    by_cases e : W 5 j = q
    · rw [if_pos e, if_pos e]
      exact mR_wh h q k (j + 1) _ (by omega)
    · rw [if_neg e, if_neg e, Int32.or_zero]
      exact mR_wh h q k (j + 1) _ (by omega)
theorem mR_dn (h : mR W S s g n) {j : Nat} (hj : j < n) : w_dn W g n j = m_dn S s g n j := by
  have hb := h.2.2.1
  obtain ⟨b, hb, e1, e2⟩ := hb
  have hk := h.2.2.2.2.2.2.1 j hj
  have hh := h.2.2.2.2.2.2.2.1 j hj
  unfold w_dn m_dn
  rw [hk.1, hk.2.2, hh.2.1, h.2.2.2.1, e2, e1, ← mR_lean h hb, mR_wh h 0 n 0 0 (by omega)]
/-- who sits in the gondola q: the first that is found, the last that is found -/
theorem mR_pin (h : mR W S s g n) {q : Nat} (hq : q < g) : m_pin S s (nI q) n 0 (-1) = (match w_pi W (nI q) n 0 with | none => -1 | some i => nI i) := by
  obtain ⟨-, hg, -, -, -, -, -, hh, hs, hi, hu, -⟩ := h
  have key : ∀ (k j : Nat) (a : Int32), j + k = n → m_pin S s (nI q) k j a = (match w_pi W (nI q) k j with | none => a | some i => nI i) := by
    intro k
    induction k with
    | zero => intro j a hj; rfl
    | succ k ih =>
      intro j a hj
      unfold m_pin w_pi
      rw [(hh j (by omega)).1, hs j (by omega)]
      by_cases e : W 5 j = 1
      · rw [if_pos e]
        by_cases e2 : W 6 j = nI q
        · rw [if_pos ⟨e, e2⟩, if_pos ⟨e, e2⟩, ih (j + 1) _ (by omega)]
          cases hw : w_pi W (nI q) k (j + 1) with
          | none => rfl
          | some i =>
            obtain ⟨w1, w2, w3, w4⟩ := w_pi_lt W (nI q) k (j + 1) i hw
            have := hu j i (by omega) (by omega) e w3 (e2.trans w4.symm)
            omega
        · rw [if_neg (fun z => e2 z.2), if_neg (fun z => e2 z.2)]
          exact ih (j + 1) a (by omega)
      · rw [if_neg (fun z => e z.1), if_neg (fun z => e z.1)]
        exact ih (j + 1) a (by omega)
  exact key n 0 (-1) (by omega)
end SAME
