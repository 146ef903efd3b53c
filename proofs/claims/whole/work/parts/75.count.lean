/-! How often it sticks, counted. -/
theorem am_ovl_u (S W : Nat → Nat → Int32) {a : Nat} (i : Nat) (v : Int32) (h : a < 29 ∨ 38 ≤ a) : am_u (am_ovl S 29 W) a i v = am_ovl (am_u S a i v) 29 W := by
  funext b
  unfold am_u am_ovl
  by_cases e : b = a
  · rw [if_pos e, if_neg (by omega), if_neg (by omega)]
    exact (if_pos e).symm
  · rw [if_neg e]
    by_cases q : 29 ≤ b ∧ b < 29 + 9
    · rw [if_pos q, if_pos q]
    · rw [if_neg q, if_neg q]
      exact (if_neg e).symm
theorem am_hh_setO (X : Nat × (Nat → Int32)) (S : Nat → Nat → Int32) (L : Nat → Int64) (W : Nat → Nat → Int32) {a i : Nat} {v : Int32} (h : a < 29 ∨ 38 ≤ a) {c : am_C} (hc : c = am_cf0 X L a (upd (am_ovl S 29 W a) i v)) : am_set (am_hh X (am_ovl S 29 W) L) a c = am_hh X (am_ovl (am_u S a i v) 29 W) L := by
  rw [am_hh_set X (am_ovl S 29 W) L a i v hc, am_ovl_u S W i v h]
def w_cn (rk : Nat → Int32) (g n : Nat) : Nat → (Nat → Nat → Int32) → Nat
  | 0, _ => 0
  | k + 1, W => (if w_mb W rk g n = true then 0 else 1) + w_cn rk g n k (w_ms W rk g n)
section CNT
variable {rk : Nat → Int32} {g n : Nat}
theorem w_cn_le : ∀ (k : Nat) (W : Nat → Nat → Int32), w_cn rk g n k W ≤ k
  | 0, _ => Nat.le_refl _
  | k + 1, W => by
    unfold w_cn
    have := w_cn_le k (w_ms W rk g n)
    split <;> omega
theorem w_sn_cn : ∀ (k : Nat) (W : Nat → Nat → Int32) (x : Nat), w_sn rk g n k W (nI x) = nI (x + w_cn rk g n k W)
  | 0, _, _ => rfl
  | k + 1, W, x => by
    unfold w_sn w_cn
    split
    · rw [w_sn_cn k, Nat.zero_add]
    · rw [nI_1, w_sn_cn k, Nat.add_assoc]
theorem w_sk_cn {e : Nat} (he : e < 2 ^ 30) : ∀ (k : Nat) (W : Nat → Nat → Int32) (x : Nat), x ≤ e → k < 2 ^ 30 → (w_sk rk g n (nI e) k (nI x) W).1 = nI (min (x + w_cn rk g n k W) e)
  | 0, W, x, hx, _ => by
    show nI x = nI (min (x + 0) e)
    congr 1
    omega
  | k + 1, W, x, hx, hk => by
    unfold w_sk w_cn
    by_cases c : nI e ≤ nI x
    · rw [if_pos c]
      rw [nI_leI (by omega) (by omega)] at c
      show nI x = _
      congr 1
      omega
    · rw [if_neg c]
      rw [nI_leI (by omega) (by omega)] at c
      split
      · rw [w_sk_cn he k _ x hx (by omega), Nat.zero_add]
      · rw [nI_1, w_sk_cn he k _ (x + 1) (by omega) (by omega), Nat.add_assoc]
theorem w_sk_ind {P : (Nat → Nat → Int32) → Prop} (hP : ∀ V, P V → P (w_ms V rk g n)) {en : Int32} : ∀ (k : Nat) (W : Nat → Nat → Int32) (a : Int32), P W → P (w_sk rk g n en k a W).2
  | 0, _, _, h => h
  | k + 1, W, a, h => by
    unfold w_sk
    split
    · exact h
    · exact w_sk_ind hP k _ _ (hP _ h)
theorem w_sk_cl {en : Int32} {k : Nat} {W : Nat → Nat → Int32} {a : Int32} (hf : wF W g n) (hc : w_cl W) : w_cl (w_sk rk g n en k a W).2 := (w_sk_ind (P := fun V => wF V g n ∧ w_cl V) (fun V h => ⟨wF_ms h.1, w_cl_ms h.1 h.2⟩) k W a ⟨hf, hc⟩).2
end CNT
theorem wF_u {W : Nat → Nat → Int32} {g n : Nat} (h : wF W g n) {c i : Nat} {v : Int32} (hc : ¬ (c = 0 ∧ (i = 0 ∨ i = 4))) : wF (am_u W c i v) g n := by
  unfold wF
  rw [am_u_at, am_u_at, if_neg (by omega), if_neg (by omega)]
  exact h
/-- LOAD: what is best so far -/
def ld_s (st : Option (Nat × Nat)) (code cnt : Nat) : Option (Nat × Nat) := match st with
  | none => some (code, cnt)
  | some (b, l) => if cnt < l then some (code, cnt) else some (b, l)
def ld_v (W : Nat → Nat → Int32) (g n m gi : Nat) : Nat → Nat → Option (Nat × Nat) → Option (Nat × Nat)
  | 0, _, st => st
  | k + 1, v, st => ld_v W g n m gi k (v + 1) (ld_s st (10 * gi + v) (w_cn rk0 g n m (am_u W 1 gi (nI v))))
def ld_g (W : Nat → Nat → Int32) (g n m : Nat) : Nat → Nat → Option (Nat × Nat) → Option (Nat × Nat)
  | 0, _, st => st
  | k + 1, gi, st => ld_g W g n m k (gi + 1) (ld_v W g n m gi 9 1 st)
/-- BEAR -/
def w_br (W : Nat → Nat → Int32) (g n m : Nat) : Nat → Nat → Int32
  | 0, _ => -1000000
  | k + 1, v => if w_cn rk0 g n m (am_u W 0 1 (nI v)) = 0 then nI v else w_br W g n m k (v + 1)
