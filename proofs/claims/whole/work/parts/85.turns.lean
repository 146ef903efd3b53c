/-! TURNS of two. -/
def w_mv (W : Nat → Nat → Int32) (b t : Nat) : Nat → Nat → Int32 := if t % 2 = 0 then am_u W 1 b (if W 1 b + 3 < 9 then W 1 b + 3 else 9) else am_u W 0 2 (w_nb W)
def w_mvs (N c : Nat) : Nat → Nat → (Nat → Nat → Int32) → Nat → Nat → Int32
  | 0, _, W => W
  | k + 1, t, W => w_mvs N c k (t + 1) (if ((nI c) >>> ((((nI N) - 1) - (nI t)) &&& 31)) &&& 1 = 1 then w_mv W (W 0 2).toNatClampNeg t else W)
def w_wv (W : Nat → Nat → Int32) (g n N m c : Nat) : Int32 := w_sum (w_it rk0 g n m (w_mvs N c N 0 W) 7) n 0 0
def mB (W : Nat → Nat → Int32) (g n : Nat) : Prop := wF W g n ∧ 4 ≤ g ∧ ∃ b, b < g ∧ W 0 2 = nI b
def wB (W : Nat → Nat → Int32) : Prop := ∀ i, i < 12 → ∃ b, b ≤ 9 ∧ W 1 i = nI b
theorem nb_b {W : Nat → Nat → Int32} {g b : Nat} (hg : W 0 0 = nI g) (hg12 : g ≤ 12) (hb : b < g) (e : W 0 2 = nI b) : ∃ b1, b1 < g ∧ w_nb W = nI b1 := by
  have h1 := List.all_eq_true.mp nb_dec g (List.mem_range.mpr (by omega))
  have h2 := of_decide_eq_true (List.all_eq_true.mp h1 b (List.mem_range.mpr hb))
  refine ⟨(b + 1) % g, Nat.mod_lt _ (by omega), ?_⟩
  unfold w_nb
  rw [hg, e]
  exact h2.1
theorem mB_mv {W : Nat → Nat → Int32} {g n b t : Nat} (h : mB W g n) : mB (w_mv W b t) g n := by
  obtain ⟨hf, hg, b0, hb0, e⟩ := h
  unfold w_mv
  split
  · exact ⟨wF_u (c := 1) hf (by omega), hg, b0, hb0, e⟩
  · obtain ⟨b1, hb1, e1⟩ := nb_b hf.2.2.1 hf.2.2.2 hb0 e
    refine ⟨wF_u (c := 0) (i := 2) hf (by omega), hg, b1, hb1, ?_⟩
    rw [am_u_eq]
    exact e1
theorem w_cl_mv {W : Nat → Nat → Int32} {b t : Nat} (h : w_cl W) (hb : b < 12) : w_cl (w_mv W b t) := by
  unfold w_mv
  split
  · exact w_cl_u h hb
  · exact w_cl_u h (show 2 < 5 by decide)
theorem wB_v : ∀ b : Nat, b ≤ 9 → ∃ c : Nat, c ≤ 9 ∧ (if nI b + 3 < 9 then nI b + 3 else 9) = nI c ∧ (if nI b ≤ 6 then nI b + 3 else 9) = nI c := by
  intro b hb
  have : b = 0 ∨ b = 1 ∨ b = 2 ∨ b = 3 ∨ b = 4 ∨ b = 5 ∨ b = 6 ∨ b = 7 ∨ b = 8 ∨ b = 9 := by omega
  rcases this with rfl | rfl | rfl | rfl | rfl | rfl | rfl | rfl | rfl | rfl
  · exact ⟨3, by omega, by decide, by decide⟩
  · exact ⟨4, by omega, by decide, by decide⟩
  · exact ⟨5, by omega, by decide, by decide⟩
  · exact ⟨6, by omega, by decide, by decide⟩
  · exact ⟨7, by omega, by decide, by decide⟩
  · exact ⟨8, by omega, by decide, by decide⟩
  · exact ⟨9, by omega, by decide, by decide⟩
  · exact ⟨9, by omega, by decide, by decide⟩
  · exact ⟨9, by omega, by decide, by decide⟩
  · exact ⟨9, by omega, by decide, by decide⟩
theorem wB_mv {W : Nat → Nat → Int32} {b t : Nat} (h : wB W) (hb : b < 12) : wB (w_mv W b t) := by
  unfold w_mv
  split
  · intro i hi
    rw [am_u_at]
    by_cases q : i = b
    · subst q
      rw [if_pos ⟨rfl, rfl⟩]
      obtain ⟨x, hx, e⟩ := h i hi
      obtain ⟨c, hc, e1, -⟩ := wB_v x hx
      rw [e]
      exact ⟨c, hc, e1⟩
    · rw [if_neg (fun z => q z.2)]
      exact h i hi
  · intro i hi
    exact h i hi
def bt_mx (t : Nat) (x y : Int32) : Int32 := if t % 2 = 0 then (if x < y then y else x) else (if y < x then y else x)
def bt_in (t : Nat) : Nat → Nat → (Nat → Int32) → Nat → Int32
  | 0, _, f => f
  | k + 1, l, f => bt_in t k (l + 1) (upd f l (bt_mx t (f (2 * l)) (f (2 * l + 1))))
def bt_out : Nat → (Nat → Int32) → Nat → Int32
  | 0, f => f
  | t + 1, f => bt_out t (bt_in t (2 ^ t) 0 f)
def bt_fill (wv : Nat → Int32) : Nat → Nat → (Nat → Int32) → Nat → Int32
  | 0, _, f => f
  | k + 1, l, f => bt_fill wv k (l + 1) (upd f l (wv l))
def bt_res (wv : Nat → Int32) (N : Nat) (f : Nat → Int32) : Int32 := bt_out N (bt_fill wv (2 ^ N) 0 f) 0
theorem bt_in_ag (t B : Nat) : ∀ (k l : Nat) (f f' : Nat → Int32), 2 * (l + k) ≤ B → (∀ i, i < B → f i = f' i) → ∀ i, i < B → bt_in t k l f i = bt_in t k l f' i
  | 0, _, _, _, _, h => h
  | k + 1, l, f, f', hl, h => by
    unfold bt_in
    refine bt_in_ag t B k (l + 1) _ _ (by omega) (fun i hi => ?_)
    unfold upd
    by_cases q : i = l
    · rw [if_pos q, if_pos q, h (2 * l) (by omega), h (2 * l + 1) (by omega)]
    · rw [if_neg q, if_neg q]
      exact h i hi
theorem bt_out_ag : ∀ (t : Nat) (f f' : Nat → Int32), (∀ i, i < 2 ^ t → f i = f' i) → bt_out t f 0 = bt_out t f' 0
  | 0, f, f', h => h 0 (by decide)
  | t + 1, f, f', h => by
    unfold bt_out
    have e : 2 ^ (t + 1) = 2 * 2 ^ t := by rw [Nat.pow_succ]; omega
    refine bt_out_ag t _ _ (fun i hi => bt_in_ag t (2 ^ (t + 1)) (2 ^ t) 0 f f' (by omega) h i (by omega))
theorem bt_fill_at (wv : Nat → Int32) : ∀ (k l : Nat) (f : Nat → Int32) (i : Nat), bt_fill wv k l f i = if l ≤ i ∧ i < l + k then wv i else f i
  | 0, l, f, i => by
    rw [if_neg (by omega)]
    rfl
  | k + 1, l, f, i => by
    unfold bt_fill
    rw [bt_fill_at wv k (l + 1)]
    unfold upd
    by_cases q : l + 1 ≤ i ∧ i < l + 1 + k
    · rw [if_pos q, if_pos (by omega)]
    · rw [if_neg q]
      by_cases q2 : i = l
      · rw [if_pos q2, if_pos (by omega), q2]
      · rw [if_neg q2, if_neg (by omega)]
theorem bt_res_eq (wv : Nat → Int32) (N : Nat) (f f' : Nat → Int32) : bt_res wv N f = bt_res wv N f' := by
  unfold bt_res
  refine bt_out_ag N _ _ (fun i hi => ?_)
  rw [bt_fill_at, bt_fill_at, if_pos (by omega), if_pos (by omega)]
theorem shl1 : ∀ N, N < 8 → (1 : Int32) <<< (nI N &&& 31) = nI (2 ^ N) := by decide
