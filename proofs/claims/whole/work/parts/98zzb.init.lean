def xS : Nat → Nat → Int32 := fun a => if a = 17 then upd (upd (upd (upd (upd (upd (upd (upd (fun _ => 0) 0 (-1)) 1 (-1)) 2 (-1)) 3 (-1)) 4 (-1)) 5 (-1)) 6 (-1)) 7 (-1) else fun _ => 0
def xL : Nat → Int64 := fun _ => 0
theorem ext_l {h : am_H} {w s a : Nat} {A B : List am_C} (ha : a < w + A.length) : (am_ext h w (A ++ B) s).1 a = (am_ext h w A s).1 a := by
  unfold am_ext
  dsimp only
  by_cases q : a < w
  · rw [if_pos q, if_pos q]
  · rw [if_neg q, if_neg q, List.getElem?_append_left (by omega)]
theorem ext_r {h : am_H} {w w' s a : Nat} {A B : List am_C} (hw : w + A.length = w') (ha : w' ≤ a) : (am_ext h w (A ++ B) s).1 a = (am_ext h w' B s).1 a := by
  subst hw
  unfold am_ext
  dsimp only
  rw [if_neg (by omega), if_neg (by omega), List.getElem?_append_right (by omega), show a - w - A.length = a - (w + A.length) by omega]
theorem ext_hi {h : am_H} {w s a : Nat} {A : List am_C} (ha : w + A.length ≤ a) : (am_ext h w A s).1 a = h.1 a := by
  unfold am_ext
  dsimp only
  rw [if_neg (by omega), List.getElem?_eq_none (by omega)]
theorem ext_low {h : am_H} {w s a : Nat} {A : List am_C} (ha : a < w) : (am_ext h w A s).1 a = h.1 a := by
  unfold am_ext
  dsimp only
  rw [if_pos ha]
theorem xW_at {h : am_H} {w s j : Nat} (hj : j < 9) : (am_ext h w (xW w) s).1 (w + j) = am_wc w j (fun _ => 0) := by
  refine ext_at ?_
  match j, hj with
  | 0, _ => rfl
  | 1, _ => rfl
  | 2, _ => rfl
  | 3, _ => rfl
  | 4, _ => rfl
  | 5, _ => rfl
  | 6, _ => rfl
  | 7, _ => rfl
  | 8, _ => rfl
theorem xWs_at {h : am_H} {s : Nat} : ∀ k q j, q < k → j < 9 → (am_ext h 40 (xWs k) s).1 (40 + 9 * q + j) = am_wc (40 + 9 * q) j (fun _ => 0) := by
  intro k
  induction k with
  | zero => intro q j hq; omega
  | succ k ih =>
    intro q j hq hj
    show (am_ext h 40 (xWs k ++ xW (40 + 9 * k)) s).1 _ = _
    by_cases e : q = k
    · subst e
      rw [ext_r (w' := 40 + 9 * q) (by rw [xWs_len]) (by omega)]
      exact xW_at hj
    · rw [ext_l (by rw [xWs_len]; omega)]
      exact ih q j (by omega) hj
section XEQ
variable (X : Nat × (Nat → Int32)) {h : am_H} {s a : Nat}
theorem xw_eq {w : Nat} (hw : am_isW w) (hne : ∀ j, j < 9 → ¬ w + j = 17) (h1 : w ≤ a) (h2 : a < w + 9) : (am_ext h w (xW w) s).1 a = am_cf0 X xL a (xS a) := by
  obtain ⟨j, rfl⟩ : ∃ j, a = w + j := ⟨a - w, by omega⟩
  rw [xW_at (by omega), am_isW_c hw X xL j (by omega)]
  unfold xS
  rw [if_neg (hne j (by omega))]
theorem x7 : (fun i : Nat => if i < 8 then some (7 + 1 + i) else none) = (fun i : Nat => if i < 8 then some (8 + 1 * i) else none) := by
  funext i
  rw [Nat.one_mul]
theorem x257 : va_up (va_up (fun _ => none) 0 (some 258)) 1 (some 267) = (fun i : Nat => if i < 2 then some (258 + 9 * i) else none) := by
  funext i
  unfold va_up
  by_cases e1 : i = 1
  · subst e1; rfl
  · rw [if_neg e1]
    by_cases e0 : i = 0
    · subst e0; rfl
    · rw [if_neg e0, if_neg (by omega)]
theorem xe_xRows6 (h1 : 6 ≤ a) (h2 : a < 18) : (am_ext h 6 xRows6 s).1 a = am_cf0 X xL a (xS a) := by
  obtain ⟨j, rfl⟩ : ∃ j, a = 6 + j := ⟨a - 6, by omega⟩
  have hj : j < 12 := by omega
  match j, hj with
  | 0, _ => rfl
  | 1, _ => exact (congrArg (fun f => (Sum.inr (Sum.inr (1, 8, f)) : am_C)) x7)
  | 2, _ => rfl
  | 3, _ => rfl
  | 4, _ => rfl
  | 5, _ => rfl
  | 6, _ => rfl
  | 7, _ => rfl
  | 8, _ => rfl
  | 9, _ => rfl
  | 10, _ => rfl
  | 11, _ => rfl
  | j + 12, h => exact absurd h (by omega)
theorem xe_xTape18 (h1 : 18 ≤ a) (h2 : a < 20) : (am_ext h 18 xTape18 s).1 a = am_cf0 X xL a (xS a) := by
  obtain ⟨j, rfl⟩ : ∃ j, a = 18 + j := ⟨a - 18, by omega⟩
  have hj : j < 2 := by omega
  match j, hj with
  | 0, _ => rfl
  | 1, _ => rfl
  | j + 2, h => exact absurd h (by omega)
theorem xe_xForetold276 (h1 : 276 ≤ a) (h2 : a < 277) : (am_ext h 276 xForetold276 s).1 a = am_cf0 X xL a (xS a) := by
  obtain ⟨j, rfl⟩ : ∃ j, a = 276 + j := ⟨a - 276, by omega⟩
  have hj : j < 1 := by omega
  match j, hj with
  | 0, _ => rfl
  | j + 1, h => exact absurd h (by omega)
theorem xe_xPlanner277 (h1 : 277 ≤ a) (h2 : a < 280) : (am_ext h 277 xPlanner277 s).1 a = am_cf0 X xL a (xS a) := by
  obtain ⟨j, rfl⟩ : ∃ j, a = 277 + j := ⟨a - 277, by omega⟩
  have hj : j < 3 := by omega
  match j, hj with
  | 0, _ => rfl
  | 1, _ => rfl
  | 2, _ => rfl
  | j + 3, h => exact absurd h (by omega)
theorem xe_xGuesser280 (h1 : 280 ≤ a) (h2 : a < 281) : (am_ext h 280 xGuesser280 s).1 a = am_cf0 X xL a (xS a) := by
  obtain ⟨j, rfl⟩ : ∃ j, a = 280 + j := ⟨a - 280, by omega⟩
  have hj : j < 1 := by omega
  match j, hj with
  | 0, _ => rfl
  | j + 1, h => exact absurd h (by omega)
theorem xe_xChances281 (h1 : 281 ≤ a) (h2 : a < 283) : (am_ext h 281 xChances281 s).1 a = am_cf0 X xL a (xS a) := by
  obtain ⟨j, rfl⟩ : ∃ j, a = 281 + j := ⟨a - 281, by omega⟩
  have hj : j < 2 := by omega
  match j, hj with
  | 0, _ => rfl
  | 1, _ => rfl
  | j + 2, h => exact absurd h (by omega)
theorem xe_xAsks283 (h1 : 283 ≤ a) (h2 : a < 285) : (am_ext h 283 xAsks283 s).1 a = am_cf0 X xL a (xS a) := by
  obtain ⟨j, rfl⟩ : ∃ j, a = 283 + j := ⟨a - 283, by omega⟩
  have hj : j < 2 := by omega
  match j, hj with
  | 0, _ => rfl
  | 1, _ => rfl
  | j + 2, h => exact absurd h (by omega)
theorem xe_xImages256 (h1 : 256 ≤ a) (h2 : a < 276) : (am_ext h 256 xImages256 s).1 a = am_cf0 X xL a (xS a) := by
  obtain ⟨j, rfl⟩ : ∃ j, a = 256 + j := ⟨a - 256, by omega⟩
  have hj : j < 20 := by omega
  match j, hj with
  | 0, _ => rfl
  | 1, _ => exact (congrArg (fun f => (Sum.inr (Sum.inr (0, 2, f)) : am_C)) x257)
  | 2, _ => rfl
  | 3, _ => rfl
  | 4, _ => rfl
  | 5, _ => rfl
  | 6, _ => rfl
  | 7, _ => rfl
  | 8, _ => rfl
  | 9, _ => rfl
  | 10, _ => rfl
  | 11, _ => rfl
  | 12, _ => rfl
  | 13, _ => rfl
  | 14, _ => rfl
  | 15, _ => rfl
  | 16, _ => rfl
  | 17, _ => rfl
  | 18, _ => rfl
  | 19, _ => rfl
  | j + 20, h => exact absurd h (by omega)
theorem xe_xActs38 (h1 : 38 ≤ a) (h2 : a < 256) : (am_ext h 38 xActs38 s).1 a = am_cf0 X xL a (xS a) := by
  by_cases e : a < 40
  · obtain ⟨j, rfl⟩ : ∃ j, a = 38 + j := ⟨a - 38, by omega⟩
    have hj : j < 2 := by omega
    match j, hj with
    | 0, _ => rfl
    | 1, _ => rfl
  · show (am_ext h 38 ([.inl (0, [.ref 39, .int 0, .int 0]), .inr (.inr (0, 24, qg 24))] ++ xWs 24) s).1 a = _
    rw [ext_r (w' := 40) rfl (by omega)]
    obtain ⟨q, j, hq, hj, rfl⟩ : ∃ q j, q < 24 ∧ j < 9 ∧ a = 40 + 9 * q + j := ⟨(a - 40) / 9, (a - 40) % 9, by omega, by omega, by omega⟩
    rw [xWs_at 24 q j hq hj, am_isW_c (isW_past hq) X xL j hj]
    unfold xS
    rw [if_neg (by omega)]
theorem xe_xM (h1 : 285 ≤ a) (h2 : a < 306) : (am_ext h 285 xM s).1 a = am_cf0 X xL a (xS a) := by
  obtain ⟨j, rfl⟩ : ∃ j, a = 285 + j := ⟨a - 285, by omega⟩
  have hj : j < 21 := by omega
  match j, hj with
  | 0, _ => rfl
  | 1, _ => rfl
  | 2, _ => rfl
  | 3, _ => rfl
  | 4, _ => rfl
  | 5, _ => rfl
  | 6, _ => rfl
  | 7, _ => rfl
  | 8, _ => rfl
  | 9, _ => rfl
  | 10, _ => rfl
  | 11, _ => rfl
  | 12, _ => rfl
  | 13, _ => rfl
  | 14, _ => rfl
  | 15, _ => rfl
  | 16, _ => rfl
  | 17, _ => rfl
  | 18, _ => rfl
  | 19, _ => rfl
  | 20, _ => rfl
  | j + 21, h => exact absurd h (by omega)
end XEQ
theorem x_hh (X : Nat × (Nat → Int32)) : am_ext (am_h0 X.1 X.2) 5 ((.inl (10, [.ref 6, .ref 18, .ref 20, .ref 29, .ref 38, .ref 256, .ref 276, .ref 277, .ref 280, .ref 281, .ref 283, .int 0, .int 0]) :: xR11) ++ xM) 4118 = am_hh X xS xL := by
  refine Prod.ext (funext fun a => ?_) (Prod.ext ?_ rfl)
  · show _ = am_cf0 X xL a (xS a)
    by_cases h5 : a < 5
    · rw [ext_low h5]
      unfold am_cf0
      rw [if_pos h5]
      rfl
    by_cases h306 : 306 ≤ a
    · rw [ext_hi (by rw [List.length_append, List.length_cons, xl11]; show 5 + (279 + 1 + 21) ≤ a; omega)]
      unfold am_cf0
      rw [if_neg (by omega), if_neg (by omega), if_neg (by omega), if_neg (by omega), if_neg (by omega), if_neg (by omega), if_neg (by omega), if_neg (by omega), if_neg (by omega), if_neg (by omega), if_neg (by omega), if_neg (by omega), if_neg (by omega), if_neg (by omega), if_neg (by omega), if_neg (by omega), if_neg (by omega), if_neg (by omega), if_neg (by omega), if_neg (by omega), if_neg (by omega), if_neg (by omega), if_neg (by omega), if_neg (by omega), if_neg (by omega), if_neg (by omega), if_neg (by omega), if_neg (by omega), if_neg (by omega), if_neg (by omega), if_neg (by omega), if_neg (by omega), if_neg (by omega), if_neg (by omega), if_neg (by omega), if_neg (by omega), if_neg (by omega), if_neg (by omega), if_neg (by omega), if_neg (by omega), if_neg (by omega), if_neg (by omega), if_neg (by omega), if_neg (by omega), if_neg (by omega), if_neg (by omega), if_neg (by omega), if_neg (by omega), if_neg (by omega), if_neg (by omega), if_neg (by omega), if_neg (by omega), if_neg (by omega)]
      rfl
    by_cases hm : 285 ≤ a
    · rw [ext_r (w' := 285) (by rw [List.length_cons, xl11]) hm]
      exact xe_xM X hm (by omega)
    rw [ext_l (by rw [List.length_cons, xl11]; omega)]
    by_cases e5 : a = 5
    · subst e5; rfl
    rw [show (.inl (10, [.ref 6, .ref 18, .ref 20, .ref 29, .ref 38, .ref 256, .ref 276, .ref 277, .ref 280, .ref 281, .ref 283, .int 0, .int 0]) :: xR11) = [.inl (10, [.ref 6, .ref 18, .ref 20, .ref 29, .ref 38, .ref 256, .ref 276, .ref 277, .ref 280, .ref 281, .ref 283, .int 0, .int 0])] ++ xR11 from rfl, ext_r (w' := 6) rfl (by omega)]
    by_cases h283 : 283 ≤ a
    · show (am_ext _ 6 (xR10 ++ xAsks283) _).1 a = _
      rw [ext_r (w' := 283) (by rw [xl10]) h283]
      exact xe_xAsks283 X h283 (by omega)
    rw [show xR11 = xR10 ++ xAsks283 from rfl, ext_l (by rw [xl10]; omega)]
    by_cases h281 : 281 ≤ a
    · show (am_ext _ 6 (xR9 ++ xChances281) _).1 a = _
      rw [ext_r (w' := 281) (by rw [xl9]) h281]
      exact xe_xChances281 X h281 (by omega)
    rw [show xR10 = xR9 ++ xChances281 from rfl, ext_l (by rw [xl9]; omega)]
    by_cases h280 : 280 ≤ a
    · show (am_ext _ 6 (xR8 ++ xGuesser280) _).1 a = _
      rw [ext_r (w' := 280) (by rw [xl8]) h280]
      exact xe_xGuesser280 X h280 (by omega)
    rw [show xR9 = xR8 ++ xGuesser280 from rfl, ext_l (by rw [xl8]; omega)]
    by_cases h277 : 277 ≤ a
    · show (am_ext _ 6 (xR7 ++ xPlanner277) _).1 a = _
      rw [ext_r (w' := 277) (by rw [xl7]) h277]
      exact xe_xPlanner277 X h277 (by omega)
    rw [show xR8 = xR7 ++ xPlanner277 from rfl, ext_l (by rw [xl7]; omega)]
    by_cases h276 : 276 ≤ a
    · show (am_ext _ 6 (xR6 ++ xForetold276) _).1 a = _
      rw [ext_r (w' := 276) (by rw [xl6]) h276]
      exact xe_xForetold276 X h276 (by omega)
    rw [show xR7 = xR6 ++ xForetold276 from rfl, ext_l (by rw [xl6]; omega)]
    by_cases h256 : 256 ≤ a
    · show (am_ext _ 6 (xR5 ++ xImages256) _).1 a = _
      rw [ext_r (w' := 256) (by rw [xl5]) h256]
      exact xe_xImages256 X h256 (by omega)
    rw [show xR6 = xR5 ++ xImages256 from rfl, ext_l (by rw [xl5]; omega)]
    by_cases h38 : 38 ≤ a
    · show (am_ext _ 6 (xR4 ++ xActs38) _).1 a = _
      rw [ext_r (w' := 38) (by rw [xl4]) h38]
      exact xe_xActs38 X h38 (by omega)
    rw [show xR5 = xR4 ++ xActs38 from rfl, ext_l (by rw [xl4]; omega)]
    by_cases h29 : 29 ≤ a
    · show (am_ext _ 6 (xR3 ++ xWheel29) _).1 a = _
      rw [ext_r (w' := 29) (by rw [xl3]) h29]
      exact xw_eq X isW29 (fun j hj => by omega) h29 (by omega)
    rw [show xR4 = xR3 ++ xWheel29 from rfl, ext_l (by rw [xl3]; omega)]
    by_cases h20 : 20 ≤ a
    · show (am_ext _ 6 (xR2 ++ xWheel20) _).1 a = _
      rw [ext_r (w' := 20) (by rw [xl2]) h20]
      exact xw_eq X isW20 (fun j hj => by omega) h20 (by omega)
    rw [show xR3 = xR2 ++ xWheel20 from rfl, ext_l (by rw [xl2]; omega)]
    by_cases h18 : 18 ≤ a
    · show (am_ext _ 6 (xR1 ++ xTape18) _).1 a = _
      rw [ext_r (w' := 18) (by rw [xl1]) h18]
      exact xe_xTape18 X h18 (by omega)
    rw [show xR2 = xR1 ++ xTape18 from rfl, ext_l (by rw [xl1]; omega)]
    exact xe_xRows6 X (by omega) (by omega)
  · show 5 - 5 + ((.inl (10, [.ref 6, .ref 18, .ref 20, .ref 29, .ref 38, .ref 256, .ref 276, .ref 277, .ref 280, .ref 281, .ref 283, .int 0, .int 0]) :: xR11) ++ xM).length = 301
    rw [List.length_append, List.length_cons, xl11]
    rfl
