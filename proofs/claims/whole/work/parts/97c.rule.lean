theorem ax_bald' {d y pc x z : Nat} {ls : am_L} {st : List Value} {h : am_H} {Q : Option Value → am_H → Prop} {a n : Nat} {f : Nat → Int32} {i v : Int32} (hP : am_P y pc = some (.baload, x, z)) (hc : h.1 a = .inr (.inl (1, n, f))) (hi : am_in h a = true) (hx : am_ix i n = true) (hv : f i.toNatClampNeg = v) (k : am_ex d y (pc + 1) ls (.int v :: st) h Q) : am_ex d y pc ls (.int i :: .ref a :: st) h Q := by
  refine ax_s hP ?_ rfl rfl k
  show am_ald 1 (pc + 1) ls (.int i :: .ref a :: st) h = _
  unfold am_ald
  dsimp only
  rw [hc]
  dsimp only
  rw [if_pos ⟨rfl, hi, hx⟩, hv]
