/-! Rules of the abstract machine: from the next state to this one. -/
theorem am_run_le : ∀ (n d y pc : Nat) (ls : am_L) (st : List Value) (h : am_H) (r : Option Value × am_H), am_run n d y pc ls st h = some r → am_run (n + 1) d y pc ls st h = some r
  | 0, _, _, _, _, _, _, _, hs => by simp [am_run] at hs
  | n + 1, d, y, pc, ls, st, h, r, hs => by
    rw [am_run]
    rw [am_run] at hs
    split at hs
    · cases hs
    · rename_i i x z hP
      try rw [hP]
      try dsimp only
      split at hs
      · rename_i hc
        try rw [if_pos hc]
        split at hs
        · cases hs
        · rename_i d'
          split at hs
          · cases hs
          · rename_i vs rr ha
            split at hs
            · cases hs
            · rename_i v h1 h1r
              try dsimp only
              try rw [ha]
              try dsimp only
              rw [am_run_le n _ _ _ _ _ _ _ h1r]
              try dsimp only
              exact am_run_le n _ _ _ _ _ _ _ hs
      · rename_i hc
        try rw [if_neg hc]
        split at hs
        · rename_i v hv
          try rw [hv]
          exact hs
        · rename_i hv
          try rw [hv]
          try dsimp only
          split at hs
          · cases hs
          · rename_i pc' ls' st' h1 h1s
            try rw [h1s]
            try dsimp only
            exact am_run_le n _ _ _ _ _ _ _ hs
theorem am_run_add {n d y pc : Nat} {ls : am_L} {st : List Value} {h : am_H} {r : Option Value × am_H} (hs : am_run n d y pc ls st h = some r) : ∀ k, am_run (n + k) d y pc ls st h = some r
  | 0 => hs
  | k + 1 => am_run_le (n + k) _ _ _ _ _ _ _ (am_run_add hs k)
def am_ex (d y pc : Nat) (ls : am_L) (st : List Value) (h : am_H) (Q : Option Value → am_H → Prop) : Prop := ∃ n r h', am_run n d y pc ls st h = some (r, h') ∧ Q r h'
section AX
variable {d y pc x z : Nat} {ls : am_L} {st : List Value} {h : am_H} {Q : Option Value → am_H → Prop} {i : Instr}
theorem ax_mono {Q' : Option Value → am_H → Prop} (h1 : am_ex d y pc ls st h Q') (h2 : ∀ r h', Q' r h' → Q r h') : am_ex d y pc ls st h Q := by
  obtain ⟨n, r, h', a, b⟩ := h1
  exact ⟨n, r, h', a, h2 r h' b⟩
theorem ax_s {pc' : Nat} {ls' : am_L} {st' : List Value} {h1 : am_H} (hP : am_P y pc = some (i, x, z)) (hs : am_stp d pc i x ls st h = some (pc', ls', st', h1)) (hc : am_isC i x = false) (hr : am_ret y i st = none) (k : am_ex d y pc' ls' st' h1 Q) : am_ex d y pc ls st h Q := by
  obtain ⟨n, r, h', a, b⟩ := k
  refine ⟨n + 1, r, h', ?_, b⟩
  rw [am_run, hP]
  dsimp only
  rw [if_neg (by rw [hc]; decide), hr]
  dsimp only
  rw [hs]
  exact a
theorem ax_r {v : Option Value} (hP : am_P y pc = some (i, x, z)) (hc : am_isC i x = false) (hr : am_ret y i st = some v) (k : Q v h) : am_ex d y pc ls st h Q := by
  refine ⟨1, v, h, ?_, k⟩
  rw [am_run, hP]
  dsimp only
  rw [if_neg (by rw [hc]; decide), hr]
theorem ax_c {vs rr : List Value} (hP : am_P y pc = some (i, x, z)) (hc : am_isC i x = true) (ha : am_arg i x st h = some (vs, rr)) (k : am_ex d x 0 (am_ent vs (am_M x).2.2.1) [] h (fun v h1 => am_ex (d + 1) y (pc + 3) ls (v.toList ++ rr) h1 Q)) : am_ex (d + 1) y pc ls st h Q := by
  obtain ⟨n, v, h1, a, n2, r, h', b, q⟩ := k
  refine ⟨n + n2 + 1, r, h', ?_, q⟩
  rw [am_run, hP]
  dsimp only
  rw [if_pos hc, ha]
  dsimp only
  rw [am_run_add a n2]
  dsimp only
  rw [Nat.add_comm n n2]
  exact am_run_add b n
theorem am_arg_v {q b ci : Nat} {fs : List Value} {vs rr tl : List Value} (h0 : x < 239) (h1 : (am_M x).2.2.2.2.1 = 1) (hk : am_ka x = vs.length) (hst : st = vs.reverse ++ rr) (hc : am_cats rr ≤ 8) (hs : (am_sl vs).length ≤ (am_M x).2.2.1) (hm : (am_M x).2.2.1 ≤ 20) (hv : vs = .ref b :: tl) (hb : h.1 b = .inl (ci, fs)) (hmt : am_mut h b = true) (hcl : (am_cl[ci]?.map fun q => q.1) = some (am_M x).1.cls) : am_arg (.invokevirtual q) x st h = some (vs, rr) := by
  have e1 : (st.take (am_ka x)).reverse = vs := by rw [hst, hk, List.take_left' (List.length_reverse), List.reverse_reverse]
  have e2 : st.drop (am_ka x) = rr := by rw [hst, hk, List.drop_left' (List.length_reverse)]
  have e3 : am_ka x ≤ st.length := by rw [hst, hk, List.length_append, List.length_reverse]; omega
  unfold am_arg
  dsimp only
  rw [e1, e2, if_pos ⟨h0, e3, hc, hs, hm⟩, h1, hv]
  dsimp only
  rw [hb]
  exact if_pos ⟨hmt, hcl⟩
theorem am_ixN {i : Int32} {j n : Nat} (hi : i = nI j) (hj : j < n) (hn : n < 2 ^ 31) : am_ix i n = true ∧ i.toNatClampNeg = j := by
  subst hi
  have e : (nI j).toNatClampNeg = j := nI_clamp (by omega)
  refine ⟨?_, e⟩
  unfold am_ix
  rw [e]
  simp [nI_pos (show j < 2 ^ 31 by omega), hj]
theorem ax_ald {a j n : Nat} {f : Nat → Int32} {i : Int32} {v : Int32} (hP : am_P y pc = some (.iaload, x, z)) (hc : h.1 a = .inr (.inl (0, n, f))) (hi : am_in h a = true) (hj : i = nI j) (hlt : j < n) (hn : n < 2 ^ 31) (hv : f j = v) (k : am_ex d y (pc + 1) ls (.int v :: st) h Q) : am_ex d y pc ls (.int i :: .ref a :: st) h Q := by
  obtain ⟨e1, e2⟩ := am_ixN hj hlt hn
  refine ax_s hP ?_ rfl rfl k
  show am_ald 0 (pc + 1) ls (.int i :: .ref a :: st) h = _
  unfold am_ald
  dsimp only
  rw [hc]
  dsimp only
  rw [if_pos ⟨rfl, hi, e1⟩, e2, hv]
theorem ax_ast {a j n : Nat} {f : Nat → Int32} {i v : Int32} {h1 : am_H} (hP : am_P y pc = some (.iastore, x, z)) (hc : h.1 a = .inr (.inl (0, n, f))) (hi : am_mut h a = true) (hj : i = nI j) (hlt : j < n) (hn : n < 2 ^ 31) (he : am_set h a (.inr (.inl (0, n, upd f j v))) = h1) (k : am_ex d y (pc + 1) ls st h1 Q) : am_ex d y pc ls (.int v :: .int i :: .ref a :: st) h Q := by
  obtain ⟨e1, e2⟩ := am_ixN hj hlt hn
  subst he
  refine ax_s hP ?_ rfl rfl k
  show am_ast 0 (pc + 1) ls (.int v :: .int i :: .ref a :: st) h = _
  unfold am_ast
  dsimp only
  rw [hc]
  dsimp only
  rw [if_pos ⟨rfl, hi, e1⟩, e2]
  rfl
theorem ax_get {a ci q : Nat} {fs : List Value} {v : Value} (hP : am_P y pc = some (.getfield q, x, z)) (hc : h.1 a = .inl (ci, fs)) (hm : am_mut h a = true) (hci : ci = x / 100) (hv : fs[x % 100]? = some v) (k : am_ex d y (pc + 3) ls (v :: st) h Q) : am_ex d y pc ls (.ref a :: st) h Q := by
  refine ax_s hP ?_ rfl rfl k
  show am_get x (pc + 3) ls (.ref a :: st) h = _
  unfold am_get
  dsimp only
  rw [hc]
  dsimp only
  rw [hv]
  dsimp only
  rw [if_pos ⟨hci, hm⟩]
theorem ax_put {a ci q : Nat} {fs : List Value} {v : Value} {h1 : am_H} (hP : am_P y pc = some (.putfield q, x, z)) (hc : h.1 a = .inl (ci, fs)) (hm : am_mut h a = true) (hci : ci = x / 100) (hl : x % 100 < fs.length) (hk : am_fk (am_ty ci (x % 100)) v = true) (he : am_set h a (.inl (ci, fs.set (x % 100) v)) = h1) (k : am_ex d y (pc + 3) ls st h1 Q) : am_ex d y pc ls (v :: .ref a :: st) h Q := by
  subst he
  refine ax_s hP ?_ rfl ?_ k
  · show am_put x (pc + 3) ls (v :: .ref a :: st) h = _
    unfold am_put
    dsimp only
    rw [hc]
    dsimp only
    rw [if_pos ⟨hci, hl, hm, hk⟩]
  · rfl
theorem ax_if_eq {a : Int32} {off : Int} (hP : am_P y pc = some (.ifCond .eq off, x, z)) (kt : a = 0 → am_ex d y x ls st h Q) (kf : ¬ a = 0 → am_ex d y (pc + 3) ls st h Q) : am_ex d y pc ls (.int a :: st) h Q := by
  by_cases q : a = 0
  · exact ax_s (pc' := x) hP (by simp [am_stp, am_cnd, q]) rfl rfl (kt q)
  · exact ax_s (pc' := pc + 3) hP (by simp [am_stp, am_cnd, q]) rfl rfl (kf q)
theorem ax_cmp_eq {a b : Int32} {off : Int} (hP : am_P y pc = some (.if_icmp .eq off, x, z)) (kt : a = b → am_ex d y x ls st h Q) (kf : ¬ a = b → am_ex d y (pc + 3) ls st h Q) : am_ex d y pc ls (.int b :: .int a :: st) h Q := by
  by_cases q : a = b
  · exact ax_s (pc' := x) hP (by simp [am_stp, am_cnd, q]) rfl rfl (kt q)
  · exact ax_s (pc' := pc + 3) hP (by simp [am_stp, am_cnd, q]) rfl rfl (kf q)
theorem ax_if_ne {a : Int32} {off : Int} (hP : am_P y pc = some (.ifCond .ne off, x, z)) (kt : ¬ a = 0 → am_ex d y x ls st h Q) (kf : a = 0 → am_ex d y (pc + 3) ls st h Q) : am_ex d y pc ls (.int a :: st) h Q := by
  by_cases q : a = 0
  · exact ax_s (pc' := pc + 3) hP (by simp [am_stp, am_cnd, q]) rfl rfl (kf q)
  · exact ax_s (pc' := x) hP (by simp [am_stp, am_cnd, q]) rfl rfl (kt q)
theorem ax_cmp_ne {a b : Int32} {off : Int} (hP : am_P y pc = some (.if_icmp .ne off, x, z)) (kt : ¬ a = b → am_ex d y x ls st h Q) (kf : a = b → am_ex d y (pc + 3) ls st h Q) : am_ex d y pc ls (.int b :: .int a :: st) h Q := by
  by_cases q : a = b
  · exact ax_s (pc' := pc + 3) hP (by simp [am_stp, am_cnd, q]) rfl rfl (kf q)
  · exact ax_s (pc' := x) hP (by simp [am_stp, am_cnd, q]) rfl rfl (kt q)
theorem ax_if_lt {a : Int32} {off : Int} (hP : am_P y pc = some (.ifCond .lt off, x, z)) (kt : a < 0 → am_ex d y x ls st h Q) (kf : ¬ a < 0 → am_ex d y (pc + 3) ls st h Q) : am_ex d y pc ls (.int a :: st) h Q := by
  by_cases q : a < 0
  · exact ax_s (pc' := x) hP (by simp [am_stp, am_cnd, q]) rfl rfl (kt q)
  · exact ax_s (pc' := pc + 3) hP (by simp [am_stp, am_cnd, q]) rfl rfl (kf q)
theorem ax_cmp_lt {a b : Int32} {off : Int} (hP : am_P y pc = some (.if_icmp .lt off, x, z)) (kt : a < b → am_ex d y x ls st h Q) (kf : ¬ a < b → am_ex d y (pc + 3) ls st h Q) : am_ex d y pc ls (.int b :: .int a :: st) h Q := by
  by_cases q : a < b
  · exact ax_s (pc' := x) hP (by simp [am_stp, am_cnd, q]) rfl rfl (kt q)
  · exact ax_s (pc' := pc + 3) hP (by simp [am_stp, am_cnd, q]) rfl rfl (kf q)
theorem ax_if_ge {a : Int32} {off : Int} (hP : am_P y pc = some (.ifCond .ge off, x, z)) (kt : 0 ≤ a → am_ex d y x ls st h Q) (kf : ¬ 0 ≤ a → am_ex d y (pc + 3) ls st h Q) : am_ex d y pc ls (.int a :: st) h Q := by
  by_cases q : 0 ≤ a
  · exact ax_s (pc' := x) hP (by simp [am_stp, am_cnd, q]) rfl rfl (kt q)
  · exact ax_s (pc' := pc + 3) hP (by simp [am_stp, am_cnd, q]) rfl rfl (kf q)
theorem ax_cmp_ge {a b : Int32} {off : Int} (hP : am_P y pc = some (.if_icmp .ge off, x, z)) (kt : b ≤ a → am_ex d y x ls st h Q) (kf : ¬ b ≤ a → am_ex d y (pc + 3) ls st h Q) : am_ex d y pc ls (.int b :: .int a :: st) h Q := by
  by_cases q : b ≤ a
  · exact ax_s (pc' := x) hP (by simp [am_stp, am_cnd, q]) rfl rfl (kt q)
  · exact ax_s (pc' := pc + 3) hP (by simp [am_stp, am_cnd, q]) rfl rfl (kf q)
theorem ax_if_gt {a : Int32} {off : Int} (hP : am_P y pc = some (.ifCond .gt off, x, z)) (kt : 0 < a → am_ex d y x ls st h Q) (kf : ¬ 0 < a → am_ex d y (pc + 3) ls st h Q) : am_ex d y pc ls (.int a :: st) h Q := by
  by_cases q : 0 < a
  · exact ax_s (pc' := x) hP (by simp [am_stp, am_cnd, q]) rfl rfl (kt q)
  · exact ax_s (pc' := pc + 3) hP (by simp [am_stp, am_cnd, q]) rfl rfl (kf q)
theorem ax_cmp_gt {a b : Int32} {off : Int} (hP : am_P y pc = some (.if_icmp .gt off, x, z)) (kt : b < a → am_ex d y x ls st h Q) (kf : ¬ b < a → am_ex d y (pc + 3) ls st h Q) : am_ex d y pc ls (.int b :: .int a :: st) h Q := by
  by_cases q : b < a
  · exact ax_s (pc' := x) hP (by simp [am_stp, am_cnd, q]) rfl rfl (kt q)
  · exact ax_s (pc' := pc + 3) hP (by simp [am_stp, am_cnd, q]) rfl rfl (kf q)
theorem ax_if_le {a : Int32} {off : Int} (hP : am_P y pc = some (.ifCond .le off, x, z)) (kt : a ≤ 0 → am_ex d y x ls st h Q) (kf : ¬ a ≤ 0 → am_ex d y (pc + 3) ls st h Q) : am_ex d y pc ls (.int a :: st) h Q := by
  by_cases q : a ≤ 0
  · exact ax_s (pc' := x) hP (by simp [am_stp, am_cnd, q]) rfl rfl (kt q)
  · exact ax_s (pc' := pc + 3) hP (by simp [am_stp, am_cnd, q]) rfl rfl (kf q)
theorem ax_cmp_le {a b : Int32} {off : Int} (hP : am_P y pc = some (.if_icmp .le off, x, z)) (kt : a ≤ b → am_ex d y x ls st h Q) (kf : ¬ a ≤ b → am_ex d y (pc + 3) ls st h Q) : am_ex d y pc ls (.int b :: .int a :: st) h Q := by
  by_cases q : a ≤ b
  · exact ax_s (pc' := x) hP (by simp [am_stp, am_cnd, q]) rfl rfl (kt q)
  · exact ax_s (pc' := pc + 3) hP (by simp [am_stp, am_cnd, q]) rfl rfl (kf q)
end AX
/-- a method's run from its start -/
def am_mt (d x : Nat) (vs : List Value) (h : am_H) (Q : Option Value → am_H → Prop) : Prop := am_ex d x 0 (am_ent vs (am_M x).2.2.1) [] h Q
theorem ax_in {d x : Nat} {vs : List Value} {h : am_H} {Q : Option Value → am_H → Prop} {ls : am_L} (e : am_ent vs (am_M x).2.2.1 = ls) (k : am_ex d x 0 ls [] h Q) : am_mt d x vs h Q := by subst e; exact k
theorem ax_call {d y pc x z : Nat} {ls : am_L} {st : List Value} {h : am_H} {Q : Option Value → am_H → Prop} {i : Instr} {vs rr : List Value} (hP : am_P y pc = some (i, x, z)) (hc : am_isC i x = true) (ha : am_arg i x st h = some (vs, rr)) (k : am_mt d x vs h (fun v h1 => am_ex (d + 1) y (pc + 3) ls (v.toList ++ rr) h1 Q)) : am_ex (d + 1) y pc ls st h Q := ax_c hP hc ha k
/-- truth as a number -/
def bI (b : Bool) : Int32 := if b = true then 1 else 0
section AX2
variable {d y pc x z : Nat} {ls : am_L} {st : List Value} {h : am_H} {Q : Option Value → am_H → Prop}
theorem ax_bF {b : Bool} {off : Int} (hP : am_P y pc = some (.ifCond .eq off, x, z)) (kt : b = false → am_ex d y x ls st h Q) (kf : b = true → am_ex d y (pc + 3) ls st h Q) : am_ex d y pc ls (.int (bI b) :: st) h Q := by
  cases b with
  | true => exact ax_if_eq hP (fun q => absurd q (by decide)) (fun _ => kf rfl)
  | false => exact ax_if_eq hP (fun _ => kt rfl) (fun q => absurd rfl q)
theorem ax_bT {b : Bool} {off : Int} (hP : am_P y pc = some (.ifCond .ne off, x, z)) (kt : b = true → am_ex d y x ls st h Q) (kf : b = false → am_ex d y (pc + 3) ls st h Q) : am_ex d y pc ls (.int (bI b) :: st) h Q := by
  cases b with
  | true => exact ax_if_ne hP (fun _ => kt rfl) (fun q => absurd q (by decide))
  | false => exact ax_if_ne hP (fun q => absurd rfl q) (fun _ => kf rfl)
theorem bI_ret (b : Bool) : bI b = 0 ∨ bI b = 1 := by cases b <;> simp [bI]
theorem ax_rb {b : Bool} (hP : am_P y pc = some (.ireturn, x, z)) (ht : (am_M y).2.2.2.1 = some .boolean) (k : Q (some (.int (bI b))) h) : am_ex d y pc ls [.int (bI b)] h Q := by
  refine ax_r hP rfl ?_ k
  unfold am_ret
  rw [ht]
  dsimp only
  rw [if_pos (bI_ret b)]
end AX2
/-! Wheels: nine cells from w on; W j i: place i of cell j. -/
def am_u (S : Nat → Nat → Int32) (k i : Nat) (v : Int32) : Nat → Nat → Int32 := fun a => if a = k then upd (S k) i v else S a
def am_wc (w k : Nat) (c : Nat → Int32) : am_C := match k with
  | 0 => .inl (9, [.int (c 0), .int (c 1), .int (c 2), .int (c 3), .int (c 4), .ref (w + 1), .ref (w + 2), .ref (w + 3), .ref (w + 4), .ref (w + 5), .ref (w + 6), .ref (w + 7), .ref (w + 8)])
  | 1 => .inr (.inl (0, 12, c))
  | _ => .inr (.inl (0, 6, c))
def am_ov (h : am_H) (w : Nat) (W : Nat → Nat → Int32) : am_H := (fun a => if w ≤ a ∧ a < w + 9 then am_wc w (a - w) (W (a - w)) else h.1 a, h.2)
theorem am_ov_at (h : am_H) (w : Nat) (W : Nat → Nat → Int32) (j : Nat) (hj : j < 9) : (am_ov h w W).1 (w + j) = am_wc w j (W j) := by
  show (if w ≤ w + j ∧ w + j < w + 9 then am_wc w (w + j - w) (W (w + j - w)) else h.1 (w + j)) = _
  rw [if_pos (by omega), Nat.add_sub_cancel_left]
theorem am_ov_0 (h : am_H) (w : Nat) (W : Nat → Nat → Int32) : (am_ov h w W).1 w = am_wc w 0 (W 0) := am_ov_at h w W 0 (by decide)
theorem am_ov_set (h : am_H) (w : Nat) (W : Nat → Nat → Int32) (j i : Nat) (v : Int32) (hj : j < 9) {c : am_C} (hc : c = am_wc w j (upd (W j) i v)) : am_set (am_ov h w W) (w + j) c = am_ov h w (am_u W j i v) := by
  subst hc
  unfold am_set am_ov
  refine Prod.ext (funext fun a => ?_) rfl
  dsimp only
  by_cases e : a = w + j
  · subst e
    rw [if_pos rfl, if_pos (by omega), Nat.add_sub_cancel_left]
    simp [am_u]
  · rw [if_neg e]
    by_cases q : w ≤ a ∧ a < w + 9
    · rw [if_pos q, if_pos q]
      have : ¬ a - w = j := by omega
      simp [am_u, this]
    · rw [if_neg q, if_neg q]
theorem am_ov_set0 (h : am_H) (w : Nat) (W : Nat → Nat → Int32) (i : Nat) (v : Int32) {c : am_C} (hc : c = am_wc w 0 (upd (W 0) i v)) : am_set (am_ov h w W) w c = am_ov h w (am_u W 0 i v) := am_ov_set h w W 0 i v (by decide) hc
/-- there is room for a wheel at w -/
def am_wk (h : am_H) (w : Nat) : Prop := 5 ≤ w ∧ w + 9 ≤ h.2.1 + 5
theorem am_wk_in {h : am_H} {w : Nat} {W : Nat → Nat → Int32} (hk : am_wk h w) (j : Nat) (hj : j < 9) : am_in (am_ov h w W) (w + j) = true := by
  have := hk.2
  show decide (w + j < h.2.1 + 5) = true
  exact decide_eq_true (by omega)
theorem am_wk_mut {h : am_H} {w : Nat} {W : Nat → Nat → Int32} (hk : am_wk h w) (j : Nat) (hj : j < 9) : am_mut (am_ov h w W) (w + j) = true := am_mut_iff.mpr ⟨by have := hk.1; omega, by have := hk.2; show w + j < h.2.1 + 5; omega⟩
theorem am_wk_mut0 {h : am_H} {w : Nat} {W : Nat → Nat → Int32} (hk : am_wk h w) : am_mut (am_ov h w W) w = true := am_wk_mut hk 0 (by decide)
theorem am_ov_out (h : am_H) (w : Nat) (W : Nat → Nat → Int32) {a : Nat} (ha : a < w ∨ w + 9 ≤ a) : (am_ov h w W).1 a = h.1 a := by
  show (if w ≤ a ∧ a < w + 9 then _ else h.1 a) = _
  rw [if_neg (by omega)]
theorem am_tsw {d pc x : Nat} {ls : am_L} {st : List Value} {h : am_H} {dflt lo hi : Int} {offs : Array Int} {v : Int32} (ks : List Int) (hn : offs.size = (hi - lo + 1).toNat) (hd : ((List.range offs.size).all fun i => (offs.toList.getD i dflt == dflt) || ks.contains (lo + (i : Int))) = true) (hk : ∀ k ∈ ks, ¬ v.toInt = k) (h0 : 0 ≤ (pc : Int) + dflt) : am_stp d pc (.tableswitch dflt lo hi offs) x ls (.int v :: st) h = some (((pc : Int) + dflt).toNat, ls, st, h) := by
  simp only [am_stp]
  by_cases ho : v.toInt < lo ∨ hi < v.toInt
  · rw [if_pos ho]
    unfold am_jmp
    rw [if_pos h0]
  · rw [if_neg ho]
    have hlt : (v.toInt - lo).toNat < offs.size := by omega
    have h1 := List.all_eq_true.mp hd _ (List.mem_range.mpr hlt)
    simp only [Bool.or_eq_true, beq_iff_eq, List.contains_iff_mem] at h1
    have e : offs[(v.toInt - lo).toNat]? = some (offs.toList.getD (v.toInt - lo).toNat dflt) := by
      rw [Array.getElem?_eq_getElem hlt, List.getD_eq_getElem?_getD, List.getElem?_eq_getElem (by simpa using hlt)]
      simp
    rcases h1 with h1 | h1
    · rw [e, h1]
      unfold am_jmp
      dsimp only
      rw [if_pos h0]
    · exfalso
      exact hk _ h1 (by omega)
theorem am_lsw {d pc x : Nat} {ls : am_L} {st : List Value} {h : am_H} {dflt : Int} {ps : Array (Int × Int)} {v : Int32} (hp : (ps.toList.zip (ps.toList.drop 1)).all (fun (a, next) => a.1 < next.1) = true) (ho : Op.lookupswitch.offset ps.toList dflt v.toInt = dflt) (h0 : 0 ≤ (pc : Int) + dflt) : am_stp d pc (.lookupswitch dflt ps) x ls (.int v :: st) h = some (((pc : Int) + dflt).toNat, ls, st, h) := by
  simp only [am_stp]
  rw [if_pos hp, ho]
  unfold am_jmp
  rw [if_pos h0]
theorem ax_cpy {d y pc z q a b n0 n1 s1 d1 m1 : Nat} {ls : am_L} {st : List Value} {h h1 : am_H} {Q : Option Value → am_H → Prop} {f g : Nat → Int32} {sp dp n : Int32} (hP : am_P y pc = some (.invokestatic q, 1003, z)) (ha : h.1 a = .inr (.inl (0, n0, f))) (hb : h.1 b = .inr (.inl (0, n1, g))) (hs : sp = nI s1) (hd : dp = nI d1) (hm : n = nI m1) (h4 : s1 + m1 ≤ n0) (h5 : d1 + m1 ≤ n1) (hn : n0 < 2 ^ 31 ∧ n1 < 2 ^ 31) (hia : am_in h a = true) (hmb : am_mut h b = true) (hc : am_cats st ≤ 8) (he : am_set h b (.inr (.inl (0, n1, va_cpy f g s1 d1 m1))) = h1) (k : am_ex (d + 1) y (pc + 3) ls st h1 Q) : am_ex (d + 1) y pc ls (.int n :: .int dp :: .ref b :: .int sp :: .ref a :: st) h Q := by
  have e1 : sp.toNatClampNeg = s1 := by rw [hs]; exact nI_clamp (by omega)
  have e2 : dp.toNatClampNeg = d1 := by rw [hd]; exact nI_clamp (by omega)
  have e3 : n.toNatClampNeg = m1 := by rw [hm]; exact nI_clamp (by omega)
  have g1 : ¬ sp < 0 := by rw [hs]; exact nI_pos (by omega)
  have g2 : ¬ dp < 0 := by rw [hd]; exact nI_pos (by omega)
  have g3 : ¬ n < 0 := by rw [hm]; exact nI_pos (by omega)
  subst he
  refine ax_s hP ?_ rfl ?_ k
  · show (if 1003 = 1003 ∧ 1 ≤ d + 1 then am_cpy (pc + 3) ls (.int n :: .int dp :: .ref b :: .int sp :: .ref a :: st) h else none) = _
    rw [if_pos ⟨rfl, by omega⟩]
    unfold am_cpy
    dsimp only
    rw [ha, hb]
    rw [e1, e2, e3]
    exact if_pos ⟨⟨g1, g2, g3⟩, ⟨h4, h5⟩, hia, hmb, hc⟩
  · rfl
theorem ax_len {d y pc x z a n : Nat} {ls : am_L} {st : List Value} {h : am_H} {Q : Option Value → am_H → Prop} {f : Nat → Int32} (hP : am_P y pc = some (.arraylength, x, z)) (hc : h.1 a = .inr (.inl (0, n, f))) (hi : am_in h a = true) (k : am_ex d y (pc + 1) ls (.int (nI n) :: st) h Q) : am_ex d y pc ls (.ref a :: st) h Q := by
  refine ax_s hP ?_ rfl rfl k
  show am_len1 (pc + 1) ls (.ref a :: st) h = _
  unfold am_len1
  dsimp only
  rw [hc]
  exact if_pos hi
