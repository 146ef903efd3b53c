/-! The beginning: both objects are made. -/
def am_ext (h : am_H) (w : Nat) (L : List am_C) (s : Nat) : am_H := (fun a => match (if a < w then none else L[a - w]?) with
  | some c => c
  | none => h.1 a, w - 5 + L.length, s)
section EXT
variable {h : am_H} {w s i n : Nat} {L L' M : List am_C} {c : am_C}
theorem ext_at (hi : L[i]? = some c) : (am_ext h w L s).1 (w + i) = c := by
  unfold am_ext
  dsimp only
  rw [if_neg (by omega), Nat.add_sub_cancel_left, hi]
theorem ext_mut (hw : 5 ≤ w) (hi : i < L.length) : am_mut (am_ext h w L s) (w + i) = true := by
  refine am_mut_iff.mpr ⟨by omega, ?_⟩
  show w + i < w - 5 + L.length + 5
  omega
theorem ext_set (hi : i < L.length) (hL : L.set i c = L') : am_set (am_ext h w L s) (w + i) c = am_ext h w L' s := by
  subst hL
  unfold am_set am_ext
  refine Prod.ext (funext fun a => ?_) ?_
  · dsimp only
    by_cases e : a = w + i
    · subst e
      rw [if_pos rfl, if_neg (by omega), Nat.add_sub_cancel_left, List.getElem?_set_self hi]
    · rw [if_neg e]
      by_cases q : a < w
      · rw [if_pos q, if_pos q]
      · rw [if_neg q, if_neg q, List.getElem?_set_ne (by omega)]
  · dsimp only
    rw [List.length_set]
theorem ext_push (hw : 5 ≤ w) : am_push (am_ext h w L s) c n = am_ext h w (L ++ [c]) (s + n) := by
  unfold am_push am_ext
  refine Prod.ext (funext fun a => ?_) ?_
  · dsimp only
    by_cases e : a = w - 5 + L.length + 5
    · rw [if_pos e, if_neg (by omega), show a - w = L.length by omega, List.getElem?_append_right (Nat.le_refl _), Nat.sub_self]
      rfl
    · rw [if_neg e]
      by_cases q : a < w
      · rw [if_pos q, if_pos q]
      · rw [if_neg q, if_neg q]
        by_cases q2 : a - w < L.length
        · rw [List.getElem?_append_left q2]
        · rw [List.getElem?_append_right (by omega), List.getElem?_eq_none (by omega), List.getElem?_eq_none (by simp only [List.length_cons, List.length_nil]; omega)]
  · dsimp only
    rw [List.length_append]
    rfl
theorem ext_ext {s' : Nat} (hw : 5 ≤ w) : am_ext (am_ext h w L s) (w + L.length) M s' = am_ext h w (L ++ M) s' := by
  unfold am_ext
  refine Prod.ext (funext fun a => ?_) ?_
  · dsimp only
    by_cases q : a < w
    · rw [if_pos (by omega), if_pos q, if_pos q]
    · rw [if_neg q]
      by_cases q2 : a < w + L.length
      · rw [if_pos q2, if_neg q, List.getElem?_append_left (by omega)]
      · rw [if_neg q2, if_neg q, List.getElem?_append_right (by omega), show a - (w + L.length) = a - w - L.length by omega]
        cases M[a - w - L.length]? with
        | some c => rfl
        | none => dsimp only; rw [List.getElem?_eq_none (by omega)]
  · dsimp only
    rw [List.length_append]
    refine Prod.ext ?_ rfl
    dsimp only
    omega
end EXT
section AXX
variable {d y pc x z : Nat} {ls : am_L} {st : List Value} {h : am_H} {w s n b s' : Nat} {L L' : List am_C} {c : am_C} {Q : Option Value → am_H → Prop}
theorem ext_nx (hw : 5 ≤ w) : (am_ext h w L s).2.1 + 5 = w + L.length := by
  show w - 5 + L.length + 5 = _
  omega
theorem ax_xnew {k : Nat} (hP : am_P y pc = some (.new k, x, z)) (hw : 5 ≤ w) (hx : x < 12) (hc : (Sum.inl (x, (List.range (am_nf x)).map (fun k => am_dv (am_ty x k))) : am_C) = c) (hn : am_nf x = n) (hb : w + L.length = b) (hL : L ++ [c] = L') (hs : s + n = s') (k : am_ex d y (pc + 3) ls (.ref b :: st) (am_ext h w L' s') Q) : am_ex d y pc ls st (am_ext h w L s) Q := by
  subst hL
  subst hs
  subst hb
  subst hn
  subst hc
  refine ax_s hP ?_ rfl rfl k
  show am_new x (pc + 3) ls st (am_ext h w L s) = _
  unfold am_new
  rw [if_pos hx, ext_push hw, ext_nx hw]
theorem ax_xnwa {v : Int32} (hP : am_P y pc = some (.newarray .int, x, z)) (hw : 5 ≤ w) (hv : ¬ (v < 0 ∨ 1000 < v.toNatClampNeg)) (hn : v.toNatClampNeg = n) (hb : w + L.length = b) (hL : L ++ [.inr (.inl (0, n, fun _ => 0))] = L') (hs : s + n = s') (k : am_ex d y (pc + 2) ls (.ref b :: st) (am_ext h w L' s') Q) : am_ex d y pc ls (.int v :: st) (am_ext h w L s) Q := by
  subst hL
  subst hs
  subst hb
  subst hn
  refine ax_s hP ?_ rfl rfl k
  show am_nwa 0 (pc + 2) ls (.int v :: st) (am_ext h w L s) = _
  unfold am_nwa
  dsimp only
  rw [if_neg hv, ext_push hw, ext_nx hw]
theorem ax_xnwb {v : Int32} (hP : am_P y pc = some (.newarray .boolean, x, z)) (hw : 5 ≤ w) (hv : ¬ (v < 0 ∨ 1000 < v.toNatClampNeg)) (hn : v.toNatClampNeg = n) (hb : w + L.length = b) (hL : L ++ [.inr (.inl (1, n, fun _ => 0))] = L') (hs : s + n = s') (k : am_ex d y (pc + 2) ls (.ref b :: st) (am_ext h w L' s') Q) : am_ex d y pc ls (.int v :: st) (am_ext h w L s) Q := by
  subst hL
  subst hs
  subst hb
  subst hn
  refine ax_s hP ?_ rfl rfl k
  show am_nwa 1 (pc + 2) ls (.int v :: st) (am_ext h w L s) = _
  unfold am_nwa
  dsimp only
  rw [if_neg hv, ext_push hw, ext_nx hw]
theorem ax_xnwq {v : Int32} {k : Nat} (hP : am_P y pc = some (.anewarray k, x, z)) (hw : 5 ≤ w) (hv : ¬ (v < 0 ∨ 1000 < v.toNatClampNeg)) (hn : v.toNatClampNeg = n) (hb : w + L.length = b) (hL : L ++ [.inr (.inr (0, n, fun _ => none))] = L') (hs : s + n = s') (k : am_ex d y (pc + 3) ls (.ref b :: st) (am_ext h w L' s') Q) : am_ex d y pc ls (.int v :: st) (am_ext h w L s) Q := by
  subst hL
  subst hs
  subst hb
  subst hn
  refine ax_s hP ?_ rfl rfl k
  show am_nwq (pc + 3) ls (.int v :: st) (am_ext h w L s) = _
  unfold am_nwq
  dsimp only
  rw [if_neg hv, ext_push hw, ext_nx hw]
theorem ax_xnwg {v u : Int32} {m k : Nat} (hP : am_P y pc = some (.multianewarray m 2, x, z)) (hw : 5 ≤ w) (hv : ¬ (u < 0 ∨ v < 0 ∨ 1000 < u.toNatClampNeg ∨ 1000 < v.toNatClampNeg)) (hn : u.toNatClampNeg = n) (hk : v.toNatClampNeg = k) (hb : w + L.length = b) (hL : L ++ (.inr (.inr (1, n, fun i => if i < n then some (b + 1 + i) else none)) :: List.replicate n (.inr (.inl (0, k, fun _ => 0)))) = L') (hs : s + n + n * k = s') (kk : am_ex d y (pc + 4) ls (.ref b :: st) (am_ext h w L' s') Q) : am_ex d y pc ls (.int v :: .int u :: st) (am_ext h w L s) Q := by
  subst hL
  subst hs
  subst hb
  subst hn
  subst hk
  refine ax_s hP ?_ rfl rfl kk
  show am_nwg (pc + 4) ls (.int v :: .int u :: st) (am_ext h w L s) = _
  unfold am_nwg
  dsimp only
  rw [if_neg hv, ext_nx hw]
  congr 1
  refine Prod.ext rfl (Prod.ext rfl (Prod.ext rfl (Prod.ext (funext fun a => ?_) (Prod.ext ?_ rfl))))
  · have e6 : (am_ext h w L s).2.1 + 6 = w + L.length + 1 := by
      have := ext_nx (h := h) (L := L) (s := s) hw
      omega
    dsimp only
    rw [e6]
    by_cases e : a = w + L.length
    · rw [if_pos e]
      unfold am_ext
      dsimp only
      rw [if_neg (by omega), show a - w = L.length by omega, List.getElem?_append_right (Nat.le_refl _), Nat.sub_self]
      rfl
    · rw [if_neg e]
      unfold am_ext
      dsimp only
      by_cases q : a < w
      · rw [if_neg (by omega), if_pos q, if_pos q]
      · rw [if_neg q, if_neg q]
        by_cases q2 : a - w < L.length
        · rw [if_neg (by omega), List.getElem?_append_left q2]
        · rw [List.getElem?_append_right (by omega)]
          obtain ⟨j, hj⟩ : ∃ j, a - w - L.length = j + 1 := ⟨a - w - L.length - 1, by omega⟩
          rw [hj, List.getElem?_cons_succ]
          by_cases q3 : j < u.toNatClampNeg
          · rw [if_pos (by omega), List.getElem?_replicate, if_pos q3]
          · rw [if_neg (by omega), List.getElem?_replicate, if_neg q3, List.getElem?_eq_none (by omega)]
  · show (am_ext h w L s).2.1 + 1 + u.toNatClampNeg = w - 5 + (L ++ _ :: List.replicate _ _).length
    rw [List.length_append, List.length_cons, List.length_replicate]
    have := ext_nx (h := h) (L := L) (s := s) hw
    omega
theorem ax_qst {h0 h1 : am_H} {a r j n : Nat} {f : Nat → Option Nat} {fs : List Value} {i : Int32} (hP : am_P y pc = some (.aastore, x, z)) (hc : h0.1 a = .inr (.inr (0, n, f))) (hr : h0.1 r = .inl (9, fs)) (m1 : am_mut h0 r = true) (m2 : am_mut h0 a = true) (hj : i = nI j) (hlt : j < n) (hn : n < 2 ^ 31) (he : am_set h0 a (.inr (.inr (0, n, va_up f j (some r)))) = h1) (k : am_ex d y (pc + 1) ls st h1 Q) : am_ex d y pc ls (.ref r :: .int i :: .ref a :: st) h0 Q := by
  obtain ⟨e1, e2⟩ := am_ixN hj hlt hn
  subst he
  refine ax_s hP ?_ rfl rfl k
  show am_qst (pc + 1) ls (.ref r :: .int i :: .ref a :: st) h0 = _
  unfold am_qst
  try dsimp only
  rw [hc]
  try dsimp only
  rw [hr]
  show (if (9 : Nat) = 9 ∧ am_mut h0 r = true ∧ am_mut h0 a = true ∧ am_ix i n = true then some (pc + 1, ls, st, am_set h0 a (.inr (.inr (0, n, va_up f i.toNatClampNeg (some r))))) else none) = _
  rw [if_pos ⟨rfl, m1, m2, e1⟩, e2]
end AXX
