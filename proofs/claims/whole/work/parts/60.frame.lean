/-! Walks over the whole heap: further rules, the wheels now (20) and trial (29) as cells, rows, frames. -/
def rk0 : Nat → Int32 := fun j => ([0, 1, 2, 3, 4, 5] : List Int32).getD j 0
section AX6
variable {d y pc x z : Nat} {ls : am_L} {st : List Value} {h : am_H} {Q : Option Value → am_H → Prop}
theorem ax_ald' {a n : Nat} {f : Nat → Int32} {i v : Int32} (hP : am_P y pc = some (.iaload, x, z)) (hc : h.1 a = .inr (.inl (0, n, f))) (hi : am_in h a = true) (hx : am_ix i n = true) (hv : f i.toNatClampNeg = v) (k : am_ex d y (pc + 1) ls (.int v :: st) h Q) : am_ex d y pc ls (.int i :: .ref a :: st) h Q := by
  refine ax_s hP ?_ rfl rfl k
  show am_ald 0 (pc + 1) ls (.int i :: .ref a :: st) h = _
  unfold am_ald
  dsimp only
  rw [hc]
  dsimp only
  rw [if_pos ⟨rfl, hi, hx⟩, hv]
theorem ax_ast' {a n : Nat} {f : Nat → Int32} {i v : Int32} {h1 : am_H} (hP : am_P y pc = some (.iastore, x, z)) (hc : h.1 a = .inr (.inl (0, n, f))) (hi : am_mut h a = true) (hx : am_ix i n = true) (he : am_set h a (.inr (.inl (0, n, upd f i.toNatClampNeg v))) = h1) (k : am_ex d y (pc + 1) ls st h1 Q) : am_ex d y pc ls (.int v :: .int i :: .ref a :: st) h Q := by
  subst he
  refine ax_s hP ?_ rfl rfl k
  show am_ast 0 (pc + 1) ls (.int v :: .int i :: .ref a :: st) h = _
  unfold am_ast
  dsimp only
  rw [hc]
  dsimp only
  rw [if_pos ⟨rfl, hi, hx⟩]
  rfl
theorem ax_bald {a j n : Nat} {f : Nat → Int32} {i v : Int32} (hP : am_P y pc = some (.baload, x, z)) (hc : h.1 a = .inr (.inl (1, n, f))) (hi : am_in h a = true) (hj : i = nI j) (hlt : j < n) (hn : n < 2 ^ 31) (hv : f j = v) (k : am_ex d y (pc + 1) ls (.int v :: st) h Q) : am_ex d y pc ls (.int i :: .ref a :: st) h Q := by
  obtain ⟨e1, e2⟩ := am_ixN hj hlt hn
  refine ax_s hP ?_ rfl rfl k
  show am_ald 1 (pc + 1) ls (.int i :: .ref a :: st) h = _
  unfold am_ald
  dsimp only
  rw [hc]
  dsimp only
  rw [if_pos ⟨rfl, hi, e1⟩, e2, hv]
theorem ax_bast {a j n : Nat} {f : Nat → Int32} {i v v1 : Int32} {h1 : am_H} (hP : am_P y pc = some (.bastore, x, z)) (hc : h.1 a = .inr (.inl (1, n, f))) (hi : am_mut h a = true) (hj : i = nI j) (hlt : j < n) (hn : n < 2 ^ 31) (hv : vp_nar .boolean v = v1) (he : am_set h a (.inr (.inl (1, n, upd f j v1))) = h1) (k : am_ex d y (pc + 1) ls st h1 Q) : am_ex d y pc ls (.int v :: .int i :: .ref a :: st) h Q := by
  obtain ⟨e1, e2⟩ := am_ixN hj hlt hn
  subst he
  subst hv
  refine ax_s hP ?_ rfl rfl k
  show am_ast 1 (pc + 1) ls (.int v :: .int i :: .ref a :: st) h = _
  unfold am_ast
  dsimp only
  rw [hc]
  dsimp only
  rw [if_pos ⟨rfl, hi, e1⟩, e2]
  rfl
theorem ax_qld' {a b n tk : Nat} {f : Nat → Option Nat} {i : Int32} (hP : am_P y pc = some (.aaload, x, z)) (hc : h.1 a = .inr (.inr (tk, n, f))) (hm : am_mut h a = true) (ht : tk ≤ 1) (hx : am_ix i n = true) (hf : f i.toNatClampNeg = some b) (k : am_ex d y (pc + 1) ls (.ref b :: st) h Q) : am_ex d y pc ls (.int i :: .ref a :: st) h Q := by
  refine ax_s hP ?_ rfl rfl k
  show am_qld (pc + 1) ls (.int i :: .ref a :: st) h = _
  unfold am_qld
  dsimp only
  rw [hc]
  dsimp only
  rw [hf]
  dsimp only
  rw [if_pos ⟨ht, hm, hx⟩]
theorem ax_qld {a b j n tk : Nat} {f : Nat → Option Nat} {i : Int32} (hP : am_P y pc = some (.aaload, x, z)) (hc : h.1 a = .inr (.inr (tk, n, f))) (hm : am_mut h a = true) (ht : tk ≤ 1) (hj : i = nI j) (hlt : j < n) (hn : n < 2 ^ 31) (hf : f j = some b) (k : am_ex d y (pc + 1) ls (.ref b :: st) h Q) : am_ex d y pc ls (.int i :: .ref a :: st) h Q := by
  obtain ⟨e1, e2⟩ := am_ixN hj hlt hn
  exact ax_qld' hP hc hm ht e1 (by rw [e2]; exact hf) k
theorem ax_pF {P : Prop} [Decidable P] {off : Int} (hP : am_P y pc = some (.ifCond .eq off, x, z)) (kt : ¬ P → am_ex d y x ls st h Q) (kf : P → am_ex d y (pc + 3) ls st h Q) : am_ex d y pc ls (.int (bI (decide P)) :: st) h Q := ax_bF hP (fun q => kt (of_decide_eq_false q)) (fun q => kf (of_decide_eq_true q))
theorem ax_pT {P : Prop} [Decidable P] {off : Int} (hP : am_P y pc = some (.ifCond .ne off, x, z)) (kt : P → am_ex d y x ls st h Q) (kf : ¬ P → am_ex d y (pc + 3) ls st h Q) : am_ex d y pc ls (.int (bI (decide P)) :: st) h Q := ax_bT hP (fun q => kt (of_decide_eq_true q)) (fun q => kf (of_decide_eq_false q))
theorem ax_qF {P : Prop} [Decidable P] {off : Int} (hP : am_P y pc = some (.ifCond .eq off, x, z)) (kt : P → am_ex d y x ls st h Q) (kf : ¬ P → am_ex d y (pc + 3) ls st h Q) : am_ex d y pc ls (.int (bI (decide (¬ P))) :: st) h Q := ax_pF hP (fun q => kt (Decidable.not_not.mp q)) kf
theorem ax_qT {P : Prop} [Decidable P] {off : Int} (hP : am_P y pc = some (.ifCond .ne off, x, z)) (kt : ¬ P → am_ex d y x ls st h Q) (kf : P → am_ex d y (pc + 3) ls st h Q) : am_ex d y pc ls (.int (bI (decide (¬ P))) :: st) h Q := ax_pT hP kt (fun q => kf (Decidable.not_not.mp q))
end AX6
theorem am_ix_lt {i : Int32} {n : Nat} (h : am_ix i n = true) : i.toNatClampNeg < n := by
  unfold am_ix at h
  rw [Bool.and_eq_true] at h
  exact of_decide_eq_true h.2
theorem am_ix_of {i : Int32} {j n : Nat} (e : i = nI j) (h : j < n) (hn : n < 2 ^ 31) : am_ix i n = true := (am_ixN e h hn).1
theorem kw {d y : Nat} {vs : List Value} {A B C D : am_H} {r : Option Value} {Q : Option Value → am_H → Prop} (he : A = B) (he2 : C = D) (ct : ∀ Q : Option Value → am_H → Prop, Q r C → am_mt d y vs B Q) (hQ : Q r D) : am_mt d y vs A Q := by
  subst he
  subst he2
  exact ct Q hQ
theorem isW20 : am_isW 20 := Or.inl rfl
theorem isW29 : am_isW 29 := Or.inr (Or.inl rfl)
theorem isW_past {m : Nat} (h : m < 24) : am_isW (40 + 9 * m) := Or.inr (Or.inr (Or.inl ⟨m, h, rfl⟩))
theorem isW_kept {m : Nat} (h : m < 2) : am_isW (258 + 9 * m) := Or.inr (Or.inr (Or.inr ⟨m, h, rfl⟩))
section HH6
variable (X : Nat × (Nat → Int32)) (S : Nat → Nat → Int32) (L : Nat → Int64)
theorem isW_0 {w : Nat} (hw : am_isW w) : (am_hh X S L).1 w = .inl (9, [.int (S w 0), .int (S w 1), .int (S w 2), .int (S w 3), .int (S w 4), .ref (w + 1), .ref (w + 2), .ref (w + 3), .ref (w + 4), .ref (w + 5), .ref (w + 6), .ref (w + 7), .ref (w + 8)]) := am_isW_c hw X L 0 (by decide) (S w)
theorem isW_m {w : Nat} (hw : am_isW w) : am_mut (am_hh X S L) w = true := by
  have h := am_isW_k hw X S L
  exact am_mut_iff.mpr ⟨h.1, by have := h.2; show w < 301 + 5; have e : w + 9 ≤ 301 + 5 := this; omega⟩
theorem am_rowc {r : Nat} (hr : r < 8) (f : Nat → Int32) : am_cf0 X L (8 + 1 * r) f = .inr (.inl (0, 40, f)) := by
  match r, hr with
  | 0, _ => rfl
  | 1, _ => rfl
  | 2, _ => rfl
  | 3, _ => rfl
  | 4, _ => rfl
  | 5, _ => rfl
  | 6, _ => rfl
  | 7, _ => rfl
theorem hh_row {r : Nat} (hr : r < 8) : (am_hh X S L).1 (8 + 1 * r) = .inr (.inl (0, 40, S (8 + 1 * r))) := am_rowc X L hr _
theorem hh_rowi {r : Nat} (hr : r < 8) : am_in (am_hh X S L) (8 + 1 * r) = true := decide_eq_true (show 8 + 1 * r < 301 + 5 by omega)
theorem hh_rowm {r : Nat} (hr : r < 8) : am_mut (am_hh X S L) (8 + 1 * r) = true := am_mut_iff.mpr ⟨by omega, show 8 + 1 * r < 301 + 5 by omega⟩
theorem am_u_ovl (w j i : Nat) (v : Int32) (W : Nat → Nat → Int32) (hj : j < 9) : am_u (am_ovl S w W) (w + j) i v = am_ovl S w (am_u W j i v) := by
  funext a
  unfold am_u am_ovl
  by_cases e : a = w + j
  · subst e
    rw [if_pos rfl, if_pos (by omega), if_pos (by omega), Nat.add_sub_cancel_left]
    exact (if_pos rfl).symm
  · rw [if_neg e]
    by_cases q : w ≤ a ∧ a < w + 9
    · rw [if_pos q, if_pos q]
      exact (if_neg (by omega)).symm
    · rw [if_neg q, if_neg q]
theorem am_hh_setW (W : Nat → Nat → Int32) (j i : Nat) (v : Int32) (hj : j < 9) {c : am_C} (hc : c = am_cf0 X L (29 + j) (upd (am_ovl S 29 W (29 + j)) i v)) : am_set (am_hh X (am_ovl S 29 W) L) (29 + j) c = am_hh X (am_ovl S 29 (am_u W j i v)) L := by
  rw [am_hh_set X (am_ovl S 29 W) L (29 + j) i v hc, am_u_ovl S 29 j i v W hj]
theorem am_sub_o (W : Nat → Nat → Int32) {w v : Nat} (hd : v + 9 ≤ w ∨ w + 9 ≤ v) : am_sub (am_ovl S w W) v = am_sub S v := by
  funext j
  unfold am_sub am_ovl
  by_cases h : j < 9
  · rw [if_pos h, if_pos h, if_neg (by omega)]
  · rw [if_neg h, if_neg h]
theorem am_sub_s {W : Nat → Nat → Int32} {w : Nat} (hc : w_cl W) : am_sub (am_ovl S w W) w = W := by
  funext j
  unfold am_sub am_ovl
  by_cases h : j < 9
  · rw [if_pos h, if_pos (by omega), Nat.add_sub_cancel_left]
  · rw [if_neg h]
    funext i
    exact (hc j i (by unfold w_len; split <;> omega)).symm
theorem am_ovl_ovl (w : Nat) (W V : Nat → Nat → Int32) : am_ovl (am_ovl S w W) w V = am_ovl S w V := by
  funext a
  unfold am_ovl
  by_cases q : w ≤ a ∧ a < w + 9
  · rw [if_pos q, if_pos q]
  · rw [if_neg q, if_neg q, if_neg q]
theorem am_hh_sub20 (W : Nat → Nat → Int32) : am_hh X (am_ovl S 29 W) L = am_ov (am_hh X (am_ovl S 29 W) L) 20 (am_sub S 20) := by
  have h := am_hh_sub isW20 X (am_ovl S 29 W) L
  rw [am_sub_o S W (w := 29) (v := 20) (Or.inl (by decide))] at h
  exact h
end HH6
def am_ul (L : Nat → Int64) (k : Nat) (v : Int64) : Nat → Int64 := fun a => if a = k then v else L a
theorem am_cf0_L {a : Nat} (h : ¬ a = 281) (X : Nat × (Nat → Int32)) (L L' : Nat → Int64) (c : Nat → Int32) : am_cf0 X L a c = am_cf0 X L' a c := by
  unfold am_cf0
  rw [if_neg h, if_neg h]
theorem am_hh_setL3 (X : Nat × (Nat → Int32)) (S : Nat → Nat → Int32) (L : Nat → Int64) (v : Int64) : am_set (am_hh X S L) 281 (.inl (2, [.ref 20, .ref 29, .ref 282, .long v, .long (L 4)])) = am_hh X S (am_ul L 3 v) := by
  unfold am_set am_hh
  refine Prod.ext (funext fun a => ?_) rfl
  dsimp only
  by_cases e : a = 281
  · subst e; rfl
  · rw [if_neg e]; exact am_cf0_L e _ _ _ _
theorem am_hh_setL4 (X : Nat × (Nat → Int32)) (S : Nat → Nat → Int32) (L : Nat → Int64) (v : Int64) : am_set (am_hh X S L) 281 (.inl (2, [.ref 20, .ref 29, .ref 282, .long (L 3), .long v])) = am_hh X S (am_ul L 4 v) := by
  unfold am_set am_hh
  refine Prod.ext (funext fun a => ?_) rfl
  dsimp only
  by_cases e : a = 281
  · subst e; rfl
  · rw [if_neg e]; exact am_cf0_L e _ _ _ _
/-- what is known of a wheel; of the model -/
def wF (W : Nat → Nat → Int32) (g n : Nat) : Prop := W 0 4 = nI n ∧ n ≤ 6 ∧ W 0 0 = nI g ∧ g ≤ 12
def mF (S : Nat → Nat → Int32) (g n : Nat) : Prop := (S 285 7 = nI n ∧ n ≤ 6) ∧ (S 285 8 = nI g ∧ 4 ≤ g ∧ g ≤ 12) ∧ ∀ j, j < 6 → ∃ r, r < 6 ∧ S 297 j = nI r
theorem hh_20 (X : Nat × (Nat → Int32)) (S : Nat → Nat → Int32) (L : Nat → Int64) : (am_hh X S L).1 20 = .inl (9, [.int (S 20 0), .int (S 20 1), .int (S 20 2), .int (S 20 3), .int (S 20 4), .ref 21, .ref 22, .ref 23, .ref 24, .ref 25, .ref 26, .ref 27, .ref 28]) := rfl
theorem hh_21 (X : Nat × (Nat → Int32)) (S : Nat → Nat → Int32) (L : Nat → Int64) : (am_hh X S L).1 21 = .inr (.inl (0, 12, S 21)) := rfl
theorem hh_22 (X : Nat × (Nat → Int32)) (S : Nat → Nat → Int32) (L : Nat → Int64) : (am_hh X S L).1 22 = .inr (.inl (0, 6, S 22)) := rfl
theorem hh_23 (X : Nat × (Nat → Int32)) (S : Nat → Nat → Int32) (L : Nat → Int64) : (am_hh X S L).1 23 = .inr (.inl (0, 6, S 23)) := rfl
theorem hh_24 (X : Nat × (Nat → Int32)) (S : Nat → Nat → Int32) (L : Nat → Int64) : (am_hh X S L).1 24 = .inr (.inl (0, 6, S 24)) := rfl
theorem hh_25 (X : Nat × (Nat → Int32)) (S : Nat → Nat → Int32) (L : Nat → Int64) : (am_hh X S L).1 25 = .inr (.inl (0, 6, S 25)) := rfl
theorem hh_26 (X : Nat × (Nat → Int32)) (S : Nat → Nat → Int32) (L : Nat → Int64) : (am_hh X S L).1 26 = .inr (.inl (0, 6, S 26)) := rfl
theorem hh_27 (X : Nat × (Nat → Int32)) (S : Nat → Nat → Int32) (L : Nat → Int64) : (am_hh X S L).1 27 = .inr (.inl (0, 6, S 27)) := rfl
theorem hh_28 (X : Nat × (Nat → Int32)) (S : Nat → Nat → Int32) (L : Nat → Int64) : (am_hh X S L).1 28 = .inr (.inl (0, 6, S 28)) := rfl
theorem hh_29 (X : Nat × (Nat → Int32)) (S : Nat → Nat → Int32) (L : Nat → Int64) : (am_hh X S L).1 29 = .inl (9, [.int (S 29 0), .int (S 29 1), .int (S 29 2), .int (S 29 3), .int (S 29 4), .ref 30, .ref 31, .ref 32, .ref 33, .ref 34, .ref 35, .ref 36, .ref 37]) := rfl
theorem hh_30 (X : Nat × (Nat → Int32)) (S : Nat → Nat → Int32) (L : Nat → Int64) : (am_hh X S L).1 30 = .inr (.inl (0, 12, S 30)) := rfl
theorem hh_31 (X : Nat × (Nat → Int32)) (S : Nat → Nat → Int32) (L : Nat → Int64) : (am_hh X S L).1 31 = .inr (.inl (0, 6, S 31)) := rfl
theorem hh_32 (X : Nat × (Nat → Int32)) (S : Nat → Nat → Int32) (L : Nat → Int64) : (am_hh X S L).1 32 = .inr (.inl (0, 6, S 32)) := rfl
theorem hh_33 (X : Nat × (Nat → Int32)) (S : Nat → Nat → Int32) (L : Nat → Int64) : (am_hh X S L).1 33 = .inr (.inl (0, 6, S 33)) := rfl
theorem hh_34 (X : Nat × (Nat → Int32)) (S : Nat → Nat → Int32) (L : Nat → Int64) : (am_hh X S L).1 34 = .inr (.inl (0, 6, S 34)) := rfl
theorem hh_35 (X : Nat × (Nat → Int32)) (S : Nat → Nat → Int32) (L : Nat → Int64) : (am_hh X S L).1 35 = .inr (.inl (0, 6, S 35)) := rfl
theorem hh_36 (X : Nat × (Nat → Int32)) (S : Nat → Nat → Int32) (L : Nat → Int64) : (am_hh X S L).1 36 = .inr (.inl (0, 6, S 36)) := rfl
theorem hh_37 (X : Nat × (Nat → Int32)) (S : Nat → Nat → Int32) (L : Nat → Int64) : (am_hh X S L).1 37 = .inr (.inl (0, 6, S 37)) := rfl
