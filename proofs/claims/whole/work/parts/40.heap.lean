/-! The heap once both objects are made (by program: wip/whole/heap.py). S a i: place i of the cell a; L: the two longs of Chances. -/
def am_cf0 (X : Nat × (Nat → Int32)) (L : Nat → Int64) (a : Nat) (c : Nat → Int32) : am_C :=
  if a < 5 then .inr (.inl (0, (am_stc X.1 X.2 a).1, (am_stc X.1 X.2 a).2))
  else if 20 ≤ a ∧ a < 38 then am_wc (20 + 9 * ((a - 20) / 9)) ((a - 20) % 9) c
  else if 40 ≤ a ∧ a < 256 then am_wc (40 + 9 * ((a - 40) / 9)) ((a - 40) % 9) c
  else if 258 ≤ a ∧ a < 276 then am_wc (258 + 9 * ((a - 258) / 9)) ((a - 258) % 9) c
  else if a = 5 then .inl (10, [.ref 6, .ref 18, .ref 20, .ref 29, .ref 38, .ref 256, .ref 276, .ref 277, .ref 280, .ref 281, .ref 283, .int (c 11), .int (c 12)])
  else if a = 6 then .inl (7, [.ref 7, .ref 16, .ref 17])
  else if a = 7 then .inr (.inr (1, 8, fun i => if i < 8 then some (8 + 1 * i) else none))
  else if a = 8 then .inr (.inl (0, 40, c))
  else if a = 9 then .inr (.inl (0, 40, c))
  else if a = 10 then .inr (.inl (0, 40, c))
  else if a = 11 then .inr (.inl (0, 40, c))
  else if a = 12 then .inr (.inl (0, 40, c))
  else if a = 13 then .inr (.inl (0, 40, c))
  else if a = 14 then .inr (.inl (0, 40, c))
  else if a = 15 then .inr (.inl (0, 40, c))
  else if a = 16 then .inr (.inl (0, 8, c))
  else if a = 17 then .inr (.inl (0, 8, c))
  else if a = 18 then .inl (8, [.ref 19, .int (c 1), .int (c 2), .int (c 3)])
  else if a = 19 then .inr (.inl (0, 100, c))
  else if a = 38 then .inl (0, [.ref 39, .int (c 1), .int (c 2)])
  else if a = 39 then .inr (.inr (0, 24, fun i => if i < 24 then some (40 + 9 * i) else none))
  else if a = 256 then .inl (5, [.ref 257])
  else if a = 257 then .inr (.inr (0, 2, fun i => if i < 2 then some (258 + 9 * i) else none))
  else if a = 276 then .inl (3, [.ref 20, .ref 29])
  else if a = 277 then .inl (6, [.ref 20, .ref 29, .ref 278, .int (c 3), .int (c 4), .ref 279, .int (c 6), .int (c 7), .int (c 8)])
  else if a = 278 then .inr (.inl (0, 6, c))
  else if a = 279 then .inr (.inl (0, 6, c))
  else if a = 280 then .inl (4, [.ref 20, .ref 29])
  else if a = 281 then .inl (2, [.ref 20, .ref 29, .ref 282, .long (L 3), .long (L 4)])
  else if a = 282 then .inr (.inl (0, 16, c))
  else if a = 283 then .inl (1, [.ref 20, .ref 284, .int (c 2)])
  else if a = 284 then .inr (.inl (0, 16, c))
  else if a = 285 then .inl (11, [.ref 286, .ref 287, .ref 288, .int (c 3), .ref 289, .int (c 5), .int (c 6), .int (c 7), .int (c 8), .ref 290, .ref 291, .ref 292, .ref 293, .ref 294, .int (c 14), .ref 295, .ref 296, .ref 297, .ref 298, .ref 299, .int (c 20), .int (c 21), .int (c 22), .int (c 23), .int (c 24), .ref 300, .ref 301, .ref 302, .ref 303, .ref 304, .ref 305])
  else if a = 286 then .inr (.inl (0, 8, c))
  else if a = 287 then .inr (.inl (0, 8, c))
  else if a = 288 then .inr (.inl (0, 320, c))
  else if a = 289 then .inr (.inl (0, 100, c))
  else if a = 290 then .inr (.inl (0, 6, c))
  else if a = 291 then .inr (.inl (0, 6, c))
  else if a = 292 then .inr (.inl (0, 6, c))
  else if a = 293 then .inr (.inl (0, 39, c))
  else if a = 294 then .inr (.inl (0, 936, c))
  else if a = 295 then .inr (.inl (0, 118, c))
  else if a = 296 then .inr (.inl (1, 2, c))
  else if a = 297 then .inr (.inl (0, 6, c))
  else if a = 298 then .inr (.inl (0, 39, c))
  else if a = 299 then .inr (.inl (0, 16, c))
  else if a = 300 then .inr (.inl (0, 2, c))
  else if a = 301 then .inr (.inl (0, 6, c))
  else if a = 302 then .inr (.inl (0, 6, c))
  else if a = 303 then .inr (.inl (0, 6, c))
  else if a = 304 then .inr (.inl (0, 6, c))
  else if a = 305 then .inr (.inl (0, 16, c))
  else .inr (.inl (0, (am_stc X.1 X.2 a).1, (am_stc X.1 X.2 a).2))
def am_hh (X : Nat × (Nat → Int32)) (S : Nat → Nat → Int32) (L : Nat → Int64) : am_H := (fun a => am_cf0 X L a (S a), 301, 4118)
theorem hh_5 (X : Nat × (Nat → Int32)) (S : Nat → Nat → Int32) (L : Nat → Int64) : (am_hh X S L).1 5 = .inl (10, [.ref 6, .ref 18, .ref 20, .ref 29, .ref 38, .ref 256, .ref 276, .ref 277, .ref 280, .ref 281, .ref 283, .int (S 5 11), .int (S 5 12)]) := rfl
theorem hh_6 (X : Nat × (Nat → Int32)) (S : Nat → Nat → Int32) (L : Nat → Int64) : (am_hh X S L).1 6 = .inl (7, [.ref 7, .ref 16, .ref 17]) := rfl
theorem hh_7 (X : Nat × (Nat → Int32)) (S : Nat → Nat → Int32) (L : Nat → Int64) : (am_hh X S L).1 7 = .inr (.inr (1, 8, fun i => if i < 8 then some (8 + 1 * i) else none)) := rfl
theorem hh_8 (X : Nat × (Nat → Int32)) (S : Nat → Nat → Int32) (L : Nat → Int64) : (am_hh X S L).1 8 = .inr (.inl (0, 40, S 8)) := rfl
theorem hh_9 (X : Nat × (Nat → Int32)) (S : Nat → Nat → Int32) (L : Nat → Int64) : (am_hh X S L).1 9 = .inr (.inl (0, 40, S 9)) := rfl
theorem hh_10 (X : Nat × (Nat → Int32)) (S : Nat → Nat → Int32) (L : Nat → Int64) : (am_hh X S L).1 10 = .inr (.inl (0, 40, S 10)) := rfl
theorem hh_11 (X : Nat × (Nat → Int32)) (S : Nat → Nat → Int32) (L : Nat → Int64) : (am_hh X S L).1 11 = .inr (.inl (0, 40, S 11)) := rfl
theorem hh_12 (X : Nat × (Nat → Int32)) (S : Nat → Nat → Int32) (L : Nat → Int64) : (am_hh X S L).1 12 = .inr (.inl (0, 40, S 12)) := rfl
theorem hh_13 (X : Nat × (Nat → Int32)) (S : Nat → Nat → Int32) (L : Nat → Int64) : (am_hh X S L).1 13 = .inr (.inl (0, 40, S 13)) := rfl
theorem hh_14 (X : Nat × (Nat → Int32)) (S : Nat → Nat → Int32) (L : Nat → Int64) : (am_hh X S L).1 14 = .inr (.inl (0, 40, S 14)) := rfl
theorem hh_15 (X : Nat × (Nat → Int32)) (S : Nat → Nat → Int32) (L : Nat → Int64) : (am_hh X S L).1 15 = .inr (.inl (0, 40, S 15)) := rfl
theorem hh_16 (X : Nat × (Nat → Int32)) (S : Nat → Nat → Int32) (L : Nat → Int64) : (am_hh X S L).1 16 = .inr (.inl (0, 8, S 16)) := rfl
theorem hh_17 (X : Nat × (Nat → Int32)) (S : Nat → Nat → Int32) (L : Nat → Int64) : (am_hh X S L).1 17 = .inr (.inl (0, 8, S 17)) := rfl
theorem hh_18 (X : Nat × (Nat → Int32)) (S : Nat → Nat → Int32) (L : Nat → Int64) : (am_hh X S L).1 18 = .inl (8, [.ref 19, .int (S 18 1), .int (S 18 2), .int (S 18 3)]) := rfl
theorem hh_19 (X : Nat × (Nat → Int32)) (S : Nat → Nat → Int32) (L : Nat → Int64) : (am_hh X S L).1 19 = .inr (.inl (0, 100, S 19)) := rfl
theorem hh_38 (X : Nat × (Nat → Int32)) (S : Nat → Nat → Int32) (L : Nat → Int64) : (am_hh X S L).1 38 = .inl (0, [.ref 39, .int (S 38 1), .int (S 38 2)]) := rfl
theorem hh_39 (X : Nat × (Nat → Int32)) (S : Nat → Nat → Int32) (L : Nat → Int64) : (am_hh X S L).1 39 = .inr (.inr (0, 24, fun i => if i < 24 then some (40 + 9 * i) else none)) := rfl
theorem hh_256 (X : Nat × (Nat → Int32)) (S : Nat → Nat → Int32) (L : Nat → Int64) : (am_hh X S L).1 256 = .inl (5, [.ref 257]) := rfl
theorem hh_257 (X : Nat × (Nat → Int32)) (S : Nat → Nat → Int32) (L : Nat → Int64) : (am_hh X S L).1 257 = .inr (.inr (0, 2, fun i => if i < 2 then some (258 + 9 * i) else none)) := rfl
theorem hh_276 (X : Nat × (Nat → Int32)) (S : Nat → Nat → Int32) (L : Nat → Int64) : (am_hh X S L).1 276 = .inl (3, [.ref 20, .ref 29]) := rfl
theorem hh_277 (X : Nat × (Nat → Int32)) (S : Nat → Nat → Int32) (L : Nat → Int64) : (am_hh X S L).1 277 = .inl (6, [.ref 20, .ref 29, .ref 278, .int (S 277 3), .int (S 277 4), .ref 279, .int (S 277 6), .int (S 277 7), .int (S 277 8)]) := rfl
theorem hh_278 (X : Nat × (Nat → Int32)) (S : Nat → Nat → Int32) (L : Nat → Int64) : (am_hh X S L).1 278 = .inr (.inl (0, 6, S 278)) := rfl
theorem hh_279 (X : Nat × (Nat → Int32)) (S : Nat → Nat → Int32) (L : Nat → Int64) : (am_hh X S L).1 279 = .inr (.inl (0, 6, S 279)) := rfl
theorem hh_280 (X : Nat × (Nat → Int32)) (S : Nat → Nat → Int32) (L : Nat → Int64) : (am_hh X S L).1 280 = .inl (4, [.ref 20, .ref 29]) := rfl
theorem hh_281 (X : Nat × (Nat → Int32)) (S : Nat → Nat → Int32) (L : Nat → Int64) : (am_hh X S L).1 281 = .inl (2, [.ref 20, .ref 29, .ref 282, .long (L 3), .long (L 4)]) := rfl
theorem hh_282 (X : Nat × (Nat → Int32)) (S : Nat → Nat → Int32) (L : Nat → Int64) : (am_hh X S L).1 282 = .inr (.inl (0, 16, S 282)) := rfl
theorem hh_283 (X : Nat × (Nat → Int32)) (S : Nat → Nat → Int32) (L : Nat → Int64) : (am_hh X S L).1 283 = .inl (1, [.ref 20, .ref 284, .int (S 283 2)]) := rfl
theorem hh_284 (X : Nat × (Nat → Int32)) (S : Nat → Nat → Int32) (L : Nat → Int64) : (am_hh X S L).1 284 = .inr (.inl (0, 16, S 284)) := rfl
theorem hh_285 (X : Nat × (Nat → Int32)) (S : Nat → Nat → Int32) (L : Nat → Int64) : (am_hh X S L).1 285 = .inl (11, [.ref 286, .ref 287, .ref 288, .int (S 285 3), .ref 289, .int (S 285 5), .int (S 285 6), .int (S 285 7), .int (S 285 8), .ref 290, .ref 291, .ref 292, .ref 293, .ref 294, .int (S 285 14), .ref 295, .ref 296, .ref 297, .ref 298, .ref 299, .int (S 285 20), .int (S 285 21), .int (S 285 22), .int (S 285 23), .int (S 285 24), .ref 300, .ref 301, .ref 302, .ref 303, .ref 304, .ref 305]) := rfl
theorem hh_286 (X : Nat × (Nat → Int32)) (S : Nat → Nat → Int32) (L : Nat → Int64) : (am_hh X S L).1 286 = .inr (.inl (0, 8, S 286)) := rfl
theorem hh_287 (X : Nat × (Nat → Int32)) (S : Nat → Nat → Int32) (L : Nat → Int64) : (am_hh X S L).1 287 = .inr (.inl (0, 8, S 287)) := rfl
theorem hh_288 (X : Nat × (Nat → Int32)) (S : Nat → Nat → Int32) (L : Nat → Int64) : (am_hh X S L).1 288 = .inr (.inl (0, 320, S 288)) := rfl
theorem hh_289 (X : Nat × (Nat → Int32)) (S : Nat → Nat → Int32) (L : Nat → Int64) : (am_hh X S L).1 289 = .inr (.inl (0, 100, S 289)) := rfl
theorem hh_290 (X : Nat × (Nat → Int32)) (S : Nat → Nat → Int32) (L : Nat → Int64) : (am_hh X S L).1 290 = .inr (.inl (0, 6, S 290)) := rfl
theorem hh_291 (X : Nat × (Nat → Int32)) (S : Nat → Nat → Int32) (L : Nat → Int64) : (am_hh X S L).1 291 = .inr (.inl (0, 6, S 291)) := rfl
theorem hh_292 (X : Nat × (Nat → Int32)) (S : Nat → Nat → Int32) (L : Nat → Int64) : (am_hh X S L).1 292 = .inr (.inl (0, 6, S 292)) := rfl
theorem hh_293 (X : Nat × (Nat → Int32)) (S : Nat → Nat → Int32) (L : Nat → Int64) : (am_hh X S L).1 293 = .inr (.inl (0, 39, S 293)) := rfl
theorem hh_294 (X : Nat × (Nat → Int32)) (S : Nat → Nat → Int32) (L : Nat → Int64) : (am_hh X S L).1 294 = .inr (.inl (0, 936, S 294)) := rfl
theorem hh_295 (X : Nat × (Nat → Int32)) (S : Nat → Nat → Int32) (L : Nat → Int64) : (am_hh X S L).1 295 = .inr (.inl (0, 118, S 295)) := rfl
theorem hh_296 (X : Nat × (Nat → Int32)) (S : Nat → Nat → Int32) (L : Nat → Int64) : (am_hh X S L).1 296 = .inr (.inl (1, 2, S 296)) := rfl
theorem hh_297 (X : Nat × (Nat → Int32)) (S : Nat → Nat → Int32) (L : Nat → Int64) : (am_hh X S L).1 297 = .inr (.inl (0, 6, S 297)) := rfl
theorem hh_298 (X : Nat × (Nat → Int32)) (S : Nat → Nat → Int32) (L : Nat → Int64) : (am_hh X S L).1 298 = .inr (.inl (0, 39, S 298)) := rfl
theorem hh_299 (X : Nat × (Nat → Int32)) (S : Nat → Nat → Int32) (L : Nat → Int64) : (am_hh X S L).1 299 = .inr (.inl (0, 16, S 299)) := rfl
theorem hh_300 (X : Nat × (Nat → Int32)) (S : Nat → Nat → Int32) (L : Nat → Int64) : (am_hh X S L).1 300 = .inr (.inl (0, 2, S 300)) := rfl
theorem hh_301 (X : Nat × (Nat → Int32)) (S : Nat → Nat → Int32) (L : Nat → Int64) : (am_hh X S L).1 301 = .inr (.inl (0, 6, S 301)) := rfl
theorem hh_302 (X : Nat × (Nat → Int32)) (S : Nat → Nat → Int32) (L : Nat → Int64) : (am_hh X S L).1 302 = .inr (.inl (0, 6, S 302)) := rfl
theorem hh_303 (X : Nat × (Nat → Int32)) (S : Nat → Nat → Int32) (L : Nat → Int64) : (am_hh X S L).1 303 = .inr (.inl (0, 6, S 303)) := rfl
theorem hh_304 (X : Nat × (Nat → Int32)) (S : Nat → Nat → Int32) (L : Nat → Int64) : (am_hh X S L).1 304 = .inr (.inl (0, 6, S 304)) := rfl
theorem hh_305 (X : Nat × (Nat → Int32)) (S : Nat → Nat → Int32) (L : Nat → Int64) : (am_hh X S L).1 305 = .inr (.inl (0, 16, S 305)) := rfl
theorem hh_s1 (X : Nat × (Nat → Int32)) (S : Nat → Nat → Int32) (L : Nat → Int64) : (am_hh X S L).1 1 = .inr (.inl (0, 6, (am_stc X.1 X.2 1).2)) := rfl
theorem hh_s2 (X : Nat × (Nat → Int32)) (S : Nat → Nat → Int32) (L : Nat → Int64) : (am_hh X S L).1 2 = .inr (.inl (0, 6, (am_stc X.1 X.2 2).2)) := rfl
theorem hh_s3 (X : Nat × (Nat → Int32)) (S : Nat → Nat → Int32) (L : Nat → Int64) : (am_hh X S L).1 3 = .inr (.inl (0, 6, (am_stc X.1 X.2 3).2)) := rfl
theorem hh_s4 (X : Nat × (Nat → Int32)) (S : Nat → Nat → Int32) (L : Nat → Int64) : (am_hh X S L).1 4 = .inr (.inl (0, 6, (am_stc X.1 X.2 4).2)) := rfl
theorem am_hh_set (X : Nat × (Nat → Int32)) (S : Nat → Nat → Int32) (L : Nat → Int64) (a i : Nat) (v : Int32) {c : am_C} (hc : c = am_cf0 X L a (upd (S a) i v)) : am_set (am_hh X S L) a c = am_hh X (am_u S a i v) L := by
  subst hc
  unfold am_set am_hh
  refine Prod.ext (funext fun b => ?_) rfl
  dsimp only
  by_cases e : b = a
  · subst e
    rw [if_pos rfl]
    simp [am_u]
  · rw [if_neg e]
    simp [am_u, e]
theorem am_hh_setc (X : Nat × (Nat → Int32)) (S : Nat → Nat → Int32) (L : Nat → Int64) (a : Nat) (f : Nat → Int32) {c : am_C} (hc : c = am_cf0 X L a f) : am_set (am_hh X S L) a c = am_hh X (am_uc S a f) L := by
  subst hc
  unfold am_set am_hh
  refine Prod.ext (funext fun b => ?_) rfl
  dsimp only
  by_cases e : b = a
  · subst e
    rw [if_pos rfl]
    simp [am_uc]
  · rw [if_neg e]
    simp [am_uc, e]
/-- a wheel lies at w -/
def am_isW (w : Nat) : Prop := w = 20 ∨ w = 29 ∨ (∃ i, i < 24 ∧ w = 40 + 9 * i) ∨ ∃ i, i < 2 ∧ w = 258 + 9 * i
theorem am_isW_c {w : Nat} (hw : am_isW w) (X : Nat × (Nat → Int32)) (L : Nat → Int64) (j : Nat) (hj : j < 9) (c : Nat → Int32) : am_cf0 X L (w + j) c = am_wc w j c := by
  unfold am_cf0
  rcases hw with rfl | rfl | ⟨i, hi, rfl⟩ | ⟨i, hi, rfl⟩
  · rw [if_neg (by omega), if_pos (by omega), show (20 + j - 20) / 9 = 0 by omega, show (20 + j - 20) % 9 = j by omega]
  · rw [if_neg (by omega), if_pos (by omega), show (29 + j - 20) / 9 = 1 by omega, show (29 + j - 20) % 9 = j by omega]
  · rw [if_neg (by omega), if_neg (by omega), if_pos (by omega), show (40 + 9 * i + j - 40) / 9 = i by omega, show (40 + 9 * i + j - 40) % 9 = j by omega]
  · rw [if_neg (by omega), if_neg (by omega), if_neg (by omega), if_pos (by omega), show (258 + 9 * i + j - 258) / 9 = i by omega, show (258 + 9 * i + j - 258) % 9 = j by omega]
def am_sub (S : Nat → Nat → Int32) (w : Nat) : Nat → Nat → Int32 := fun j => if j < 9 then S (w + j) else fun _ => 0
def am_ovl (S : Nat → Nat → Int32) (w : Nat) (W : Nat → Nat → Int32) : Nat → Nat → Int32 := fun a => if w ≤ a ∧ a < w + 9 then W (a - w) else S a
theorem am_hh_ov {w : Nat} (hw : am_isW w) (X : Nat × (Nat → Int32)) (S : Nat → Nat → Int32) (L : Nat → Int64) (W : Nat → Nat → Int32) : am_ov (am_hh X S L) w W = am_hh X (am_ovl S w W) L := by
  unfold am_ov am_hh
  refine Prod.ext (funext fun a => ?_) rfl
  dsimp only
  by_cases q : w ≤ a ∧ a < w + 9
  · rw [if_pos q]
    have e := am_isW_c hw X L (a - w) (by omega) (W (a - w))
    rw [show w + (a - w) = a by omega] at e
    rw [← e]
    unfold am_ovl
    rw [if_pos q]
  · rw [if_neg q]
    unfold am_ovl
    rw [if_neg q]
theorem am_ovl_sub (S : Nat → Nat → Int32) (w : Nat) : am_ovl S w (am_sub S w) = S := by
  funext a
  unfold am_ovl am_sub
  by_cases q : w ≤ a ∧ a < w + 9
  · rw [if_pos q, if_pos (by omega), show w + (a - w) = a by omega]
  · rw [if_neg q]
theorem am_hh_sub {w : Nat} (hw : am_isW w) (X : Nat × (Nat → Int32)) (S : Nat → Nat → Int32) (L : Nat → Int64) : am_hh X S L = am_ov (am_hh X S L) w (am_sub S w) := by
  rw [am_hh_ov hw, am_ovl_sub]
theorem am_isW_k {w : Nat} (hw : am_isW w) (X : Nat × (Nat → Int32)) (S : Nat → Nat → Int32) (L : Nat → Int64) : am_wk (am_hh X S L) w := by
  show 5 ≤ w ∧ w + 9 ≤ 301 + 5
  rcases hw with rfl | rfl | ⟨i, hi, rfl⟩ | ⟨i, hi, rfl⟩ <;> omega
