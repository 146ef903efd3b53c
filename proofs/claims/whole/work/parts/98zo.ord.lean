section ORD3
variable {S S1 : Nat → Nat → Int32} {g n m : Nat} {r : Nat → Nat} {rk : Nat → Int32}
theorem TR_n (h : TR g n m S S1) (hn : S 20 4 = nI n) : S1 20 4 = nI n := by rw [h.1 20 (by omega) (by omega) (by omega)]; exact hn
theorem TR_a (h : TR g n m S S1) (ha : ∀ k, k < 6 → S 278 k = nI (r k)) : ∀ k, k < 6 → S1 278 k = nI (r k) := by rw [h.1 278 (by omega) (by omega) (by omega)]; exact ha
theorem rkR_8 (h : F8 S S1) (hr : rkR rk S n) : rkR rk S1 n := by
  unfold rkR
  rw [h 297 (by omega)]
  exact hr
def OB (b : Int32 × Int32 × (Nat → Int32)) (S1 : Nat → Nat → Int32) : Prop := S1 277 6 = b.1 ∧ S1 277 4 = b.2.1 ∧ ∀ k, k < 6 → S1 279 k = b.2.2 k
/-- what the class changes when it looks for an order -/
def OG (m : Nat) (S S1 : Nat → Nat → Int32) : Prop := (∀ a, ¬ (277 ≤ a ∧ a ≤ 279) → ¬ (29 ≤ a ∧ a < 38) → S1 a = S a) ∧ w_cl (am_sub S1 29) ∧ S1 277 3 = nI m
def FO (W : Nat → Nat → Int32) (g n m : Nat) (S S1 : Nat → Nat → Int32) : Prop := OG m S S1 ∧ S1 277 6 = (oc_res W g n m).1 ∧ ∀ k, k < 6 → S1 279 k = (oc_res W g n m).2.2 k
end ORD3
