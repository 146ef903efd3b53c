/-! DAYS by draws. -/
theorem dr_z {z : Nat} (hz : z < 2 ^ 31) : lN z * 16807 - lN z * 16807 / 2147483647 * 2147483647 = lN (z * 16807 % 2147483647) := by
  have e1 : lN z * 16807 = lN (z * 16807) := lN_mul z 16807
  rw [e1]
  exact pk_lRem (a := z * 16807) (b := 2147483647) (by omega) (by omega) (by omega)
theorem dr_b (z : Nat) : z * 16807 % 2147483647 < 2 ^ 31 := by
  have := Nat.mod_lt (z * 16807) (show 0 < 2147483647 by omega)
  omega
theorem dr_r {z n : Nat} {v : Int32} (hv : v = nI n) (hz : z < 2 ^ 31) (hn : 1 ≤ n) (hn2 : n < 2 ^ 31) : (lN z - lN z / v.toInt64 * v.toInt64).toInt32 = nI (z % n) := by
  rw [hv, nI_l hn2, pk_lRem (by omega) (by omega) (by omega), lN_i]
theorem dr_0 {n : Nat} {v : Int32} (hv : v = nI n) (hn : 1 ≤ n) (hn2 : n < 2 ^ 31) : ¬ v.toInt64 = 0 := by
  rw [hv, nI_l hn2, show (0 : Int64) = lN 0 from rfl, lN_eq hn2 (by omega)]
  omega
def w_hp (W : Nat → Nat → Int32) (g n z : Nat) : Nat → Nat → Int32 :=
  if W 5 (z % n) = 2 ∨ W 5 (z % n) = 3 then w_ca W (z % n) else if lg_cmp (lN z - lN z / 4 * 4) 0 = 0 then am_u W 1 (z % g) (lN z - lN z / 10 * 10).toInt32 else W
def w_dr (g n : Nat) : Nat → Nat → (Nat → Nat → Int32) → Int32 → Int32 × (Nat → Nat → Int32)
  | 0, _, W, a => (a, W)
  | k + 1, z, W, a => w_dr g n k (z * 16807 % 2147483647) (w_ms (w_hp W g n (z * 16807 % 2147483647)) rk0 g n) (if w_mb (w_hp W g n (z * 16807 % 2147483647)) rk0 g n = true then a else a + 1)
theorem wF_hp {W : Nat → Nat → Int32} {g n z : Nat} (h : wF W g n) : wF (w_hp W g n z) g n := by
  unfold w_hp
  split
  · exact wF_u (c := 8) (wF_u (c := 7) (wF_u (c := 5) h (by omega)) (by omega)) (by omega)
  · split
    · exact wF_u (c := 1) h (by omega)
    · exact h
theorem w_cl_hp {W : Nat → Nat → Int32} {g n z : Nat} (hn : 1 ≤ n) (hn6 : n ≤ 6) (hg : 1 ≤ g) (hg12 : g ≤ 12) (h : w_cl W) : w_cl (w_hp W g n z) := by
  have h1 := Nat.mod_lt z (show 0 < n by omega)
  have h2 := Nat.mod_lt z (show 0 < g by omega)
  unfold w_hp
  split
  · exact w_cl_u (w_cl_u (w_cl_u h (show z % n < 6 by omega)) (show z % n < 6 by omega)) (show z % n < 6 by omega)
  · split
    · exact w_cl_u h (show z % g < 12 by omega)
    · exact h
theorem wF_dr {g n : Nat} : ∀ (k z : Nat) (W : Nat → Nat → Int32) (a : Int32), wF W g n → wF (w_dr g n k z W a).2 g n
  | 0, _, _, _, h => h
  | k + 1, z, W, a, h => by
    unfold w_dr
    exact wF_dr k _ _ _ (wF_ms (wF_hp h))
theorem w_cl_dr {g n : Nat} (hn : 1 ≤ n) (hg : 1 ≤ g) : ∀ (k z : Nat) (W : Nat → Nat → Int32) (a : Int32), wF W g n → w_cl W → w_cl (w_dr g n k z W a).2
  | 0, _, _, _, _, h => h
  | k + 1, z, W, a, hf, h => by
    unfold w_dr
    exact w_cl_dr hn hg k _ _ _ (wF_ms (wF_hp hf)) (w_cl_ms (wF_hp hf) (w_cl_hp hn hf.2.1 hg hf.2.2.2 h))
