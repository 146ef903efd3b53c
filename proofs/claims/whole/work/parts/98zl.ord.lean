section ORD
variable {W V : Nat → Nat → Int32} {g n m : Nat} {rk rk' : Nat → Int32} {l : List Nat}
theorem lf_lg (l : List Nat) (k : Nat) : lf l k = nI (lg l k) := rfl
theorem lg_sw (l : List Nat) (i : Nat) : ∀ k, k < 6 → lg (swL l i) k = if k = i then lg l (i + 1) else if k = i + 1 then lg l i else lg l k := by
  intro k hk
  match k, hk with
  | 0, _ => rfl
  | 1, _ => rfl
  | 2, _ => rfl
  | 3, _ => rfl
  | 4, _ => rfl
  | 5, _ => rfl
/-- whom a place of the order lets in -/
abbrev nq (V : Nat → Nat → Int32) (x : Int32) : Prop := (¬ x < 0 ∧ ¬ V 0 4 ≤ x) ∧ V 5 x.toNatClampNeg = 0
theorem nx_c (h : ∀ k, k < 6 → rk k = rk' k) : ∀ k i, i + k ≤ 6 → w_nx V rk k i = w_nx V rk' k i := by
  intro k
  induction k with
  | zero => intro i _; rfl
  | succ k ih =>
    intro i hi
    show (if nq V (rk i) then some (rk i).toNatClampNeg else w_nx V rk k (i + 1)) = (if nq V (rk' i) then some (rk' i).toNatClampNeg else w_nx V rk' k (i + 1))
    rw [h i (by omega), ih (i + 1) (by omega)]
theorem nx_hi {i : Nat} (h : ∀ k, k < 6 → i + 1 < k → rk k = rk' k) : ∀ k j, j + k ≤ 6 → i + 1 < j → w_nx V rk k j = w_nx V rk' k j := by
  intro k
  induction k with
  | zero => intro j _ _; rfl
  | succ k ih =>
    intro j hj hi
    show (if nq V (rk j) then some (rk j).toNatClampNeg else w_nx V rk k (j + 1)) = (if nq V (rk' j) then some (rk' j).toNatClampNeg else w_nx V rk' k (j + 1))
    rw [h j (by omega) (by omega), ih (j + 1) (by omega) (by omega)]
theorem nx_sw {i : Nat} (hi : i + 1 < 6) (h1 : rk' i = rk (i + 1)) (h2 : rk' (i + 1) = rk i) (h : ∀ k, k < 6 → k ≠ i → k ≠ i + 1 → rk' k = rk k) (hq : ¬ (nq V (rk i) ∧ nq V (rk (i + 1)))) : ∀ k j, j + k = 6 → j ≤ i → w_nx V rk' k j = w_nx V rk k j := by
  intro k
  induction k with
  | zero => intro j hj hji; omega
  | succ k ih =>
    intro j hj hji
    by_cases e : j = i
    · subst e
      obtain ⟨k', rfl⟩ : ∃ k', k = k' + 1 := ⟨k - 1, by omega⟩
      show (if nq V (rk' j) then some (rk' j).toNatClampNeg else if nq V (rk' (j + 1)) then some (rk' (j + 1)).toNatClampNeg else w_nx V rk' k' (j + 1 + 1)) = (if nq V (rk j) then some (rk j).toNatClampNeg else if nq V (rk (j + 1)) then some (rk (j + 1)).toNatClampNeg else w_nx V rk k' (j + 1 + 1))
      rw [h1, h2, nx_hi (i := j) (rk := rk') (rk' := rk) (fun k c1 c2 => h k c1 (by omega) (by omega)) k' (j + 1 + 1) (by omega) (by omega)]
      by_cases qa : nq V (rk j)
      · by_cases qb : nq V (rk (j + 1))
        · exact absurd ⟨qa, qb⟩ hq
        · rw [if_neg qb, if_pos qa, if_pos qa]
      · rw [if_neg qa, if_neg qa]
    · show (if nq V (rk' j) then some (rk' j).toNatClampNeg else w_nx V rk' k (j + 1)) = (if nq V (rk j) then some (rk j).toNatClampNeg else w_nx V rk k (j + 1))
      rw [h j (by omega) e (by omega), ih (j + 1) (by omega) (by omega)]
theorem ms_nx (h : w_nx (w_lo W g n) rk 6 0 = w_nx (w_lo W g n) rk' 6 0) : w_ms W rk g n = w_ms W rk' g n := by
  have e : w_li (w_lo W g n) rk n = w_li (w_lo W g n) rk' n := by
    unfold w_li
    rw [h]
  unfold w_ms w_m0
  rw [e]
theorem it_c (h : ∀ k, k < 6 → rk k = rk' k) : ∀ m W, w_it rk g n m W = w_it rk' g n m W := by
  intro m
  induction m with
  | zero => intro W; rfl
  | succ m ih =>
    intro W
    show w_it rk g n m (w_ms W rk g n) = w_it rk' g n m (w_ms W rk' g n)
    rw [ms_nx (nx_c h 6 0 (by omega)), ih]
theorem nz_u {a i : Nat} {v : Int32} (h : ¬ V 5 a = 0) (hv : ¬ v = 0) : ¬ am_u V 5 i v 5 a = 0 := by
  rw [am_u_at]
  split
  · exact hv
  · exact h
theorem nz_lo {a : Nat} (h : ¬ V 5 a = 0) : ¬ w_lo V g n 5 a = 0 := by
  unfold w_lo
  cases w_pi V (V 0 2) n 0 with
  | none => exact h
  | some i =>
    dsimp only
    split
    · exact nz_u h (by decide)
    · exact h
theorem nz_li {a : Nat} (h : ¬ V 5 a = 0) : ¬ w_li V rk n 5 a = 0 := by
  unfold w_li
  cases w_pi V (V 0 2) n 0 with
  | some i => exact h
  | none =>
    dsimp only
    cases w_nx V rk 6 0 with
    | none => exact h
    | some j =>
      show ¬ am_u (am_u (am_u V 5 j 1) 6 j (V 0 2)) 7 j 0 5 a = 0
      rw [am_u_ne _ (by decide), am_u_ne _ (by decide)]
      exact nz_u h (by decide)
theorem nz_w1 {a j : Nat} (h : ¬ V 5 a = 0) : ¬ w_w1 V j 5 a = 0 := by
  unfold w_w1
  split
  · split
    · exact nz_u (by rw [am_u_ne _ (by decide)]; exact h) (by decide)
    · rw [am_u_ne _ (by decide)]; exact h
  · exact h
theorem nz_wt {a : Nat} : ∀ k j V, ¬ V 5 a = 0 → ¬ w_wt k j V 5 a = 0 := by
  intro k
  induction k with
  | zero => intro j V h; exact h
  | succ k ih => intro j V h; exact ih (j + 1) _ (nz_w1 h)
theorem nz_ms {a : Nat} (h : ¬ V 5 a = 0) : ¬ w_ms V rk g n 5 a = 0 := by
  have h0 : ¬ w_m0 V rk g n 5 a = 0 := by
    unfold w_m0
    rw [am_u_ne _ (by decide)]
    exact nz_wt n 0 _ (nz_li (nz_lo h))
  unfold w_ms w_tn
  split
  · unfold w_t1
    cases w_pi (am_u (w_m0 V rk g n) 0 2 (w_nb (w_m0 V rk g n))) (am_u (w_m0 V rk g n) 0 2 (w_nb (w_m0 V rk g n)) 0 2) n 0 with
    | none => dsimp only; rw [am_u_ne _ (by decide)]; exact h0
    | some i =>
      dsimp only
      split
      · rw [am_u_ne _ (by decide)]; exact h0
      · rw [am_u_ne _ (by decide), am_u_ne _ (by decide)]; exact h0
  · exact h0
theorem it_sw {i a b : Nat} (hi : i + 1 < 6) (ha : a < 6) (hb : b < 6) (e1 : rk i = nI a) (e2 : rk (i + 1) = nI b) (h1 : rk' i = rk (i + 1)) (h2 : rk' (i + 1) = rk i) (h : ∀ k, k < 6 → k ≠ i → k ≠ i + 1 → rk' k = rk k) : ∀ m V, (¬ V 5 a = 0 ∨ ¬ V 5 b = 0) → w_it rk' g n m V = w_it rk g n m V := by
  intro m
  induction m with
  | zero => intro V _; rfl
  | succ m ih =>
    intro V hV
    have hL : ¬ w_lo V g n 5 a = 0 ∨ ¬ w_lo V g n 5 b = 0 := hV.imp nz_lo nz_lo
    have e : w_ms V rk' g n = w_ms V rk g n := by
      refine ms_nx (nx_sw hi h1 h2 h (fun z => ?_) 6 0 (by omega) (by omega))
      obtain ⟨⟨_, z1⟩, ⟨_, z2⟩⟩ := z
      rw [e1, nI_clamp (by omega)] at z1
      rw [e2, nI_clamp (by omega)] at z2
      rcases hL with q | q
      · exact q z1
      · exact q z2
    show w_it rk' g n m (w_ms V rk' g n) = w_it rk g n m (w_ms V rk g n)
    rw [e]
    exact ih _ (hV.imp nz_ms nz_ms)
def vf (h : Nat → Int32) (r : Nat → Nat) : Nat → Nat → Bool
  | 0, _ => true
  | k + 1, i => if r (i + 1) < r i ∧ (¬ h (r i) = 0 ∨ ¬ h (r (i + 1)) = 0) then false else vf h r k (i + 1)
theorem vf_no {h : Nat → Int32} {r : Nat → Nat} : ∀ k i, vf h r k i = false → ∃ j, i ≤ j ∧ j < i + k ∧ r (j + 1) < r j ∧ (¬ h (r j) = 0 ∨ ¬ h (r (j + 1)) = 0) := by
  intro k
  induction k with
  | zero => intro i z; exact absurd (show true = false from z) (by decide)
  | succ k ih =>
    intro i z
    unfold vf at z
    by_cases e : r (i + 1) < r i ∧ (¬ h (r i) = 0 ∨ ¬ h (r (i + 1)) = 0)
    · exact ⟨i, by omega, by omega, e.1, e.2⟩
    · rw [if_neg e] at z
      obtain ⟨j, j1, j2, j3⟩ := ih (i + 1) z
      exact ⟨j, by omega, by omega, j3⟩
def oc_fs (W : Nat → Nat → Int32) (g n m : Nat) : List (List Nat) → Int32 × Int32 × (Nat → Int32) → Int32 × Int32 × (Nat → Int32)
  | [], b => b
  | l :: r, b => oc_fs W g n m r (if vf (W 5) (lg l) (n - 1) 0 = true then oc_try W g n m (lf l) b else b)
/-- this order is no better -/
def nb (W : Nat → Nat → Int32) (g n m : Nat) (b : Int32 × Int32 × (Nat → Int32)) (l : List Nat) : Prop := ¬ (b.1 < oc_off W g n m (lf l) ∨ (oc_off W g n m (lf l) = b.1 ∧ b.2.1 < oc_rid W g n m (lf l)))
theorem nb_try {b : Int32 × Int32 × (Nat → Int32)} (h : nb W g n m b l) : oc_try W g n m (lf l) b = b := if_neg h
theorem nb_of (b : Int32 × Int32 × (Nat → Int32)) (l : List Nat) : nb W g n m (oc_try W g n m (lf l) b) l := by
  unfold nb oc_try
  split
  · dsimp only
    intro z
    rcases z with z | ⟨_, z⟩
    · exact Int32.lt_irrefl z
    · exact Int32.lt_irrefl z
  · rename_i h; exact h
theorem nb_mono {b : Int32 × Int32 × (Nat → Int32)} {l l' : List Nat} (h : nb W g n m b l') : nb W g n m (oc_try W g n m (lf l) b) l' := by
  unfold oc_try
  split
  · rename_i hb
    unfold nb at h ⊢
    dsimp only
    simp only [Int32.lt_iff_toInt_lt, ← Int32.toInt_inj] at h hb ⊢
    omega
  · exact h
theorem sw_val {i : Nat} (hi : i + 1 < 6) (h6 : ∀ k, k < 6 → lg l k < 6) (hw : ¬ W 5 (lg l i) = 0 ∨ ¬ W 5 (lg l (i + 1)) = 0) : w_it (lf (swL l i)) g n m W = w_it (lf l) g n m W := by
  have s1 := lg_sw l i i (by omega)
  rw [if_pos rfl] at s1
  have s2 := lg_sw l i (i + 1) hi
  rw [if_neg (by omega), if_pos rfl] at s2
  refine it_sw hi (h6 i (by omega)) (h6 (i + 1) hi) (lf_lg l i) (lf_lg l (i + 1)) ?_ ?_ (fun k c1 c2 c3 => ?_) m W hw
  · rw [lf_lg, lf_lg, s1]
  · rw [lf_lg, lf_lg, s2]
  · rw [lf_lg, lf_lg, lg_sw l i k c1, if_neg c2, if_neg c3]
theorem fs_eq (hn6 : n ≤ 6) : ∀ (r pre : List (List Nat)) (b : Int32 × Int32 × (Nat → Int32)), (∀ l', l' ∈ pre → nb W g n m b l') → erl n pre r = true → (∀ l, l ∈ r → ∀ k, k < 6 → lg l k < 6) → oc_fs W g n m r b = oc_f W g n m r b := by
  intro r
  induction r with
  | nil => intro pre b _ _ _; rfl
  | cons l r ih =>
    intro pre b hp he hv
    unfold erl at he
    rw [Bool.and_eq_true] at he
    have hv' : ∀ l, l ∈ r → ∀ k, k < 6 → lg l k < 6 := fun l' h' => hv l' (List.mem_cons_of_mem l h')
    by_cases hf : vf (W 5) (lg l) (n - 1) 0 = true
    · show oc_fs W g n m r (if vf (W 5) (lg l) (n - 1) 0 = true then oc_try W g n m (lf l) b else b) = oc_f W g n m r (oc_try W g n m (lf l) b)
      rw [if_pos hf]
      refine ih (l :: pre) _ (fun l' h' => ?_) he.2 hv'
      rcases List.mem_cons.mp h' with e | e
      · subst e; exact nb_of b l'
      · exact nb_mono (hp l' e)
    · have hf' : vf (W 5) (lg l) (n - 1) 0 = false := by
        cases q : vf (W 5) (lg l) (n - 1) 0 with
        | true => exact absurd q hf
        | false => rfl
      obtain ⟨i, -, i2, i3, i4⟩ := vf_no (n - 1) 0 hf'
      have h1 := List.all_eq_true.mp he.1 i (List.mem_range.mpr (by omega))
      rw [if_pos i3] at h1
      have hm : swL l i ∈ pre := List.contains_iff_mem.mp h1
      have hb := hp _ hm
      have hval := sw_val (g := g) (n := n) (m := m) (l := l) (by omega) (hv l List.mem_cons_self) i4
      have hnb : nb W g n m b l := by
        unfold nb oc_off oc_rid at hb ⊢
        rw [hval] at hb
        exact hb
      show oc_fs W g n m r (if vf (W 5) (lg l) (n - 1) 0 = true then oc_try W g n m (lf l) b else b) = oc_f W g n m r (oc_try W g n m (lf l) b)
      rw [if_neg hf, nb_try hnb]
      refine ih (l :: pre) b (fun l' h' => ?_) he.2 hv'
      rcases List.mem_cons.mp h' with e | e
      · subst e; exact hnb
      · exact hp l' e
theorem pm_6 (hn6 : n ≤ 6) : ∀ l, l ∈ pmt n → ∀ k, k < 6 → lg l k < 6 ∧ (k < n → lg l k < n) ∧ (n ≤ k → n ≤ lg l k) := by
  intro l hl k hk
  have h1 := List.all_eq_true.mp pm_vok n (List.mem_range.mpr (by omega))
  have h2 := List.all_eq_true.mp h1 l hl
  exact of_decide_eq_true (List.all_eq_true.mp h2 k (List.mem_range.mpr hk))
theorem fs_res (hn6 : n ≤ 6) (b : Int32 × Int32 × (Nat → Int32)) : oc_fs W g n m (pmt n) b = oc_f W g n m (pmt n) b := fs_eq hn6 (pmt n) [] b (fun l' h' => absurd h' List.not_mem_nil) (List.all_eq_true.mp pm_erl n (List.mem_range.mpr (by omega))) (fun l hl k hk => (pm_6 hn6 l hl k hk).1)
end ORD
