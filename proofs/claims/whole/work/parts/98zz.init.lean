def xW (w : Nat) : List am_C := [.inl (9, [.int 0, .int 0, .int 0, .int 0, .int 0, .ref (w + 1), .ref (w + 2), .ref (w + 3), .ref (w + 4), .ref (w + 5), .ref (w + 6), .ref (w + 7), .ref (w + 8)]), .inr (.inl (0, 12, fun _ => 0)), .inr (.inl (0, 6, fun _ => 0)), .inr (.inl (0, 6, fun _ => 0)), .inr (.inl (0, 6, fun _ => 0)), .inr (.inl (0, 6, fun _ => 0)), .inr (.inl (0, 6, fun _ => 0)), .inr (.inl (0, 6, fun _ => 0)), .inr (.inl (0, 6, fun _ => 0))]
def xWs : Nat → List am_C
  | 0 => []
  | k + 1 => xWs k ++ xW (40 + 9 * k)
theorem xWs_len : ∀ k, (xWs k).length = 9 * k := by
  intro k
  induction k with
  | zero => rfl
  | succ k ih =>
    show (xWs k ++ xW (40 + 9 * k)).length = _
    rw [List.length_append, ih]
    show 9 * k + 9 = _
    omega
def qg (k : Nat) : Nat → Option Nat := fun i => if i < k then some (40 + 9 * i) else none
theorem qg_s (k : Nat) : va_up (qg k) k (some (40 + 9 * k)) = qg (k + 1) := by
  funext i
  unfold va_up qg
  by_cases e : i = k
  · subst e; rw [if_pos rfl, if_pos (by omega)]
  · rw [if_neg e]
    by_cases q : i < k
    · rw [if_pos q, if_pos (by omega)]
    · rw [if_neg q, if_neg (by omega)]
theorem in_w {d y w0 b s k : Nat} {h : am_H} {vs : List Value} {L0 C : List am_C} {c : am_C} {Q : Option Value → am_H → Prop} (core : ∀ {h : am_H} {s : Nat} {Q : Option Value → am_H → Prop}, Q none (am_ext h b C (s + k)) → am_mt d y vs (am_ext h b [c] s) Q) (hw : 5 ≤ w0) (hb : w0 + L0.length = b) (hQ : Q none (am_ext h w0 (L0 ++ C) (s + k))) : am_mt d y vs (am_ext h w0 (L0 ++ [c]) s) Q := by
  subst hb
  rw [← ext_ext (s := 0) hw]
  refine core ?_
  rw [ext_ext hw]
  exact hQ
theorem in_wheel_w {d b : Nat} (hb : 5 ≤ b) {h : am_H} {s : Nat} {Q : Option Value → am_H → Prop} (hQ : Q none (am_ext h b (xW b) (s + 54))) : am_mt (d + 1) 3 [.ref b] (am_ext h b [.inl (9, [.int 0, .int 0, .int 0, .int 0, .int 0, .null, .null, .null, .null, .null, .null, .null, .null])] s) Q := in_wheel hb hQ
theorem ext_at' {h : am_H} {w s i a : Nat} {L : List am_C} {c : am_C} (ha : a = w + i) (hi : L[i]? = some c) : (am_ext h w L s).1 a = c := by
  subst ha; exact ext_at hi
theorem ext_mut' {h : am_H} {w s i a : Nat} {L : List am_C} (ha : a = w + i) (hw : 5 ≤ w) (hi : i < L.length) : am_mut (am_ext h w L s) a = true := by
  subst ha; exact ext_mut hw hi
theorem acts_lp {d : Nat} {h : am_H} {Q : Option Value → am_H → Prop} {s : Nat} (hQ : Q none (am_ext h 38 (.inl (0, [.ref 39, .int 0, .int 0]) :: .inr (.inr (0, 24, qg 24)) :: xWs 24) (s + 1608))) : ∀ r k, k + r = 24 → am_ex (d + 2) 4 15 [some (.ref 38), some (.int (nI k))] [] (am_ext h 38 (.inl (0, [.ref 39, .int 0, .int 0]) :: .inr (.inr (0, 24, qg k)) :: xWs k) (s + 67 * k)) Q := by
  intro r
  induction r with
  | zero =>
    intro k hk
    have e : k = 24 := by omega
    subst e
    refine ax_s (pc' := 16) (st' := [.int (nI 24)]) rfl rfl rfl rfl ?_
    refine ax_s (pc' := 18) (st' := [.int 24, .int (nI 24)]) rfl rfl rfl rfl ?_
    refine ax_cmp_ge rfl (fun _ => ?_) (fun c => absurd (by decide) c)
    refine ax_r rfl rfl rfl ?_
    exact hQ
  | succ r ih =>
    intro k hk
    have hlen : (.inl (0, [.ref 39, .int 0, .int 0]) :: .inr (.inr (0, 24, qg k)) :: xWs k).length = 2 + 9 * k := by
      rw [List.length_cons, List.length_cons, xWs_len]; omega
    refine ax_s (pc' := 16) (st' := [.int (nI k)]) rfl rfl rfl rfl ?_
    refine ax_s (pc' := 18) (st' := [.int 24, .int (nI k)]) rfl rfl rfl rfl ?_
    refine ax_cmp_ge rfl (fun c => ?_) (fun _ => ?_)
    · rw [show (24 : Int32) = nI 24 from rfl, nI_leI (by omega) (by omega)] at c; omega
    refine ax_s (pc' := 22) (st' := [.ref 38]) rfl rfl rfl rfl ?_
    refine ax_get (v := .ref 39) rfl (ext_at (i := 0) rfl) (ext_mut (i := 0) (by decide) (Nat.succ_pos _)) rfl rfl ?_
    refine ax_s (pc' := 26) (st' := [.int (nI k), .ref 39]) rfl rfl rfl rfl ?_
    refine ax_xnew (n := 13) (b := 40 + 9 * k) (c := .inl (9, [.int 0, .int 0, .int 0, .int 0, .int 0, .null, .null, .null, .null, .null, .null, .null, .null])) (L' := (.inl (0, [.ref 39, .int 0, .int 0]) :: .inr (.inr (0, 24, qg k)) :: xWs k) ++ [.inl (9, [.int 0, .int 0, .int 0, .int 0, .int 0, .null, .null, .null, .null, .null, .null, .null, .null])]) (s' := s + 67 * k + 13) rfl (by decide) (by decide) rfl rfl (by rw [hlen]; omega) rfl rfl ?_
    refine ax_s (pc' := 30) (st' := [.ref (40 + 9 * k), .ref (40 + 9 * k), .int (nI k), .ref 39]) rfl rfl rfl rfl ?_
    refine ax_call (vs := [.ref (40 + 9 * k)]) (rr := [.ref (40 + 9 * k), .int (nI k), .ref 39]) rfl rfl rfl (in_w (k := 54) (C := xW (40 + 9 * k)) (in_wheel_w (by omega)) (by decide) (by rw [hlen]; omega) ?_)
    show am_ex (d + 2) 4 33 _ [.ref (40 + 9 * k), .int (nI k), .ref 39] _ _
    have hget : ((.inl (0, [.ref 39, .int 0, .int 0]) :: .inr (.inr (0, 24, qg k)) :: xWs k) ++ xW (40 + 9 * k))[2 + 9 * k]? = some (.inl (9, [.int 0, .int 0, .int 0, .int 0, .int 0, .ref (40 + 9 * k + 1), .ref (40 + 9 * k + 2), .ref (40 + 9 * k + 3), .ref (40 + 9 * k + 4), .ref (40 + 9 * k + 5), .ref (40 + 9 * k + 6), .ref (40 + 9 * k + 7), .ref (40 + 9 * k + 8)])) := by
      rw [List.getElem?_append_right (by rw [hlen]; omega), hlen, Nat.sub_self]
      rfl
    refine ax_qst (j := k) rfl (ext_at (i := 1) rfl) (ext_at' (i := 2 + 9 * k) (by omega) hget) (ext_mut' (i := 2 + 9 * k) (by omega) (by decide) ?_) (ext_mut (i := 1) (by decide) (Nat.succ_lt_succ (Nat.succ_pos _))) rfl (by omega) (by decide) (ext_set (i := 1) (L' := (.inl (0, [.ref 39, .int 0, .int 0]) :: .inr (.inr (0, 24, qg (k + 1))) :: xWs (k + 1))) (Nat.succ_lt_succ (Nat.succ_pos _)) ?_) ?_
    · rw [List.length_append, hlen]
      show 2 + 9 * k < 2 + 9 * k + 9
      omega
    · rw [qg_s]; rfl
    refine ax_s (pc' := 37) (ls' := [some (.ref 38), some (.int (nI k + 1))]) (st' := []) rfl rfl rfl rfl ?_
    rw [nI_1]
    refine ax_s (pc' := 15) (st' := []) rfl rfl rfl rfl ?_
    have := ih (k + 1) (by omega)
    rw [show s + 67 * (k + 1) = s + 67 * k + 13 + 54 by omega] at this
    exact this
def xActs : List am_C := (.inl (0, [.ref 39, .int 0, .int 0]) :: .inr (.inr (0, 24, qg 24)) :: xWs 24)
theorem in_acts {d : Nat} {h : am_H} {s : Nat} {Q : Option Value → am_H → Prop} (hQ : Q none (am_ext h 38 xActs (s + 1632))) : am_mt (d + 2) 4 [.ref 38] (am_ext h 38 [.inl (0, [.null, .int 0, .int 0])] s) Q := by
  refine ax_in (ls := [some (.ref 38), none]) rfl ?_
  refine ax_s (pc' := 1) (st' := [.ref 38]) rfl rfl rfl rfl ?_
  refine ax_s (pc' := 4) (st' := []) rfl rfl rfl rfl ?_
  refine ax_s (pc' := 5) (st' := [.ref 38]) rfl rfl rfl rfl ?_
  refine ax_s (pc' := 7) (st' := [.int 24, .ref 38]) rfl rfl rfl rfl ?_
  refine ax_xnwq (n := 24) (b := 39) (L' := [.inl (0, [.null, .int 0, .int 0]), .inr (.inr (0, 24, fun _ => none))]) (s' := s + 24) rfl (by decide) (by decide) rfl rfl rfl rfl ?_
  refine ax_put rfl (ext_at (i := 0) rfl) (ext_mut (i := 0) (by decide) (by decide)) rfl (by decide) rfl (ext_set (i := 0) (L' := [.inl (0, [.ref 39, .int 0, .int 0]), .inr (.inr (0, 24, fun _ => none))]) (by decide) rfl) ?_
  refine ax_s (pc' := 14) (st' := [.int 0]) rfl rfl rfl rfl ?_
  refine ax_s (pc' := 15) (ls' := [some (.ref 38), some (.int 0)]) (st' := []) rfl rfl rfl rfl ?_
  have e : qg 0 = fun _ => none := by
    funext i
    unfold qg
    rw [if_neg (by omega)]
  have := acts_lp (d := d) (h := h) (s := s + 24) (Q := Q) hQ 24 0 (by omega)
  rw [e] at this
  exact this
theorem in_imgs {d : Nat} {h : am_H} {s : Nat} {Q : Option Value → am_H → Prop} (hQ : Q none (am_ext h 256 [.inl (5, [.ref 257]), .inr (.inr (0, 2, va_up (va_up (fun _ => none) 0 (some 258)) 1 (some 267))), .inl (9, [.int 0, .int 0, .int 0, .int 0, .int 0, .ref (258 + 1), .ref (258 + 2), .ref (258 + 3), .ref (258 + 4), .ref (258 + 5), .ref (258 + 6), .ref (258 + 7), .ref (258 + 8)]), .inr (.inl (0, 12, fun _ => 0)), .inr (.inl (0, 6, fun _ => 0)), .inr (.inl (0, 6, fun _ => 0)), .inr (.inl (0, 6, fun _ => 0)), .inr (.inl (0, 6, fun _ => 0)), .inr (.inl (0, 6, fun _ => 0)), .inr (.inl (0, 6, fun _ => 0)), .inr (.inl (0, 6, fun _ => 0)), .inl (9, [.int 0, .int 0, .int 0, .int 0, .int 0, .ref (267 + 1), .ref (267 + 2), .ref (267 + 3), .ref (267 + 4), .ref (267 + 5), .ref (267 + 6), .ref (267 + 7), .ref (267 + 8)]), .inr (.inl (0, 12, fun _ => 0)), .inr (.inl (0, 6, fun _ => 0)), .inr (.inl (0, 6, fun _ => 0)), .inr (.inl (0, 6, fun _ => 0)), .inr (.inl (0, 6, fun _ => 0)), .inr (.inl (0, 6, fun _ => 0)), .inr (.inl (0, 6, fun _ => 0)), .inr (.inl (0, 6, fun _ => 0))] (s + 136))) : am_mt (d + 2) 5 [.ref 256] (am_ext h 256 [.inl (5, [.null])] s) Q := by
  refine ax_in (ls := [some (.ref 256)]) rfl ?_
  refine ax_s (pc' := 1) (st' := [.ref 256]) rfl rfl rfl rfl ?_
  refine ax_s (pc' := 4) (st' := []) rfl rfl rfl rfl ?_
  refine ax_s (pc' := 5) (st' := [.ref 256]) rfl rfl rfl rfl ?_
  refine ax_s (pc' := 6) (st' := [.int 2, .ref 256]) rfl rfl rfl rfl ?_
  refine ax_xnwq (n := 2) (b := 257) (L' := [.inl (5, [.null]), .inr (.inr (0, 2, fun _ => none))]) (s' := s + 2) rfl (by decide) (by decide) rfl rfl rfl (by omega) ?_
  refine ax_s (pc' := 10) (st' := [.ref 257, .ref 257, .ref 256]) rfl rfl rfl rfl ?_
  refine ax_s (pc' := 11) (st' := [.int 0, .ref 257, .ref 257, .ref 256]) rfl rfl rfl rfl ?_
  refine ax_xnew (n := 13) (b := 258) (c := .inl (9, [.int 0, .int 0, .int 0, .int 0, .int 0, .null, .null, .null, .null, .null, .null, .null, .null])) (L' := [.inl (5, [.null]), .inr (.inr (0, 2, fun _ => none)), .inl (9, [.int 0, .int 0, .int 0, .int 0, .int 0, .null, .null, .null, .null, .null, .null, .null, .null])]) (s' := s + 15) rfl (by decide) (by decide) rfl rfl rfl rfl (by omega) ?_
  refine ax_s (pc' := 15) (st' := [.ref 258, .ref 258, .int 0, .ref 257, .ref 257, .ref 256]) rfl rfl rfl rfl ?_
  refine ax_call (vs := [.ref 258]) (rr := [.ref 258, .int 0, .ref 257, .ref 257, .ref 256]) rfl rfl rfl (in_w (L0 := [.inl (5, [.null]), .inr (.inr (0, 2, fun _ => none))]) (c := .inl (9, [.int 0, .int 0, .int 0, .int 0, .int 0, .null, .null, .null, .null, .null, .null, .null, .null])) (k := 54) (C := xW 258) (in_wheel_w (by decide)) (by decide) rfl ?_)
  show am_ex _ 5 18 _ [.ref 258, .int 0, .ref 257, .ref 257, .ref 256] (am_ext h 256 [.inl (5, [.null]), .inr (.inr (0, 2, fun _ => none)), .inl (9, [.int 0, .int 0, .int 0, .int 0, .int 0, .ref (258 + 1), .ref (258 + 2), .ref (258 + 3), .ref (258 + 4), .ref (258 + 5), .ref (258 + 6), .ref (258 + 7), .ref (258 + 8)]), .inr (.inl (0, 12, fun _ => 0)), .inr (.inl (0, 6, fun _ => 0)), .inr (.inl (0, 6, fun _ => 0)), .inr (.inl (0, 6, fun _ => 0)), .inr (.inl (0, 6, fun _ => 0)), .inr (.inl (0, 6, fun _ => 0)), .inr (.inl (0, 6, fun _ => 0)), .inr (.inl (0, 6, fun _ => 0))] (s + 69)) _
  refine ax_qst (j := 0) rfl (ext_at (i := 1) rfl) (ext_at (i := 2) rfl) (ext_mut (i := 2) (by decide) (Nat.le_of_ble_eq_true rfl)) (ext_mut (i := 1) (by decide) (Nat.le_of_ble_eq_true rfl)) rfl (by decide) (by decide) (ext_set (i := 1) (L' := [.inl (5, [.null]), .inr (.inr (0, 2, va_up (fun _ => none) 0 (some 258))), .inl (9, [.int 0, .int 0, .int 0, .int 0, .int 0, .ref (258 + 1), .ref (258 + 2), .ref (258 + 3), .ref (258 + 4), .ref (258 + 5), .ref (258 + 6), .ref (258 + 7), .ref (258 + 8)]), .inr (.inl (0, 12, fun _ => 0)), .inr (.inl (0, 6, fun _ => 0)), .inr (.inl (0, 6, fun _ => 0)), .inr (.inl (0, 6, fun _ => 0)), .inr (.inl (0, 6, fun _ => 0)), .inr (.inl (0, 6, fun _ => 0)), .inr (.inl (0, 6, fun _ => 0)), .inr (.inl (0, 6, fun _ => 0))]) (Nat.le_of_ble_eq_true rfl) rfl) ?_
  refine ax_s (pc' := 20) (st' := [.ref 257, .ref 257, .ref 256]) rfl rfl rfl rfl ?_
  refine ax_s (pc' := 21) (st' := [.int 1, .ref 257, .ref 257, .ref 256]) rfl rfl rfl rfl ?_
  refine ax_xnew (n := 13) (b := 267) (c := .inl (9, [.int 0, .int 0, .int 0, .int 0, .int 0, .null, .null, .null, .null, .null, .null, .null, .null])) (L' := [.inl (5, [.null]), .inr (.inr (0, 2, va_up (fun _ => none) 0 (some 258))), .inl (9, [.int 0, .int 0, .int 0, .int 0, .int 0, .ref (258 + 1), .ref (258 + 2), .ref (258 + 3), .ref (258 + 4), .ref (258 + 5), .ref (258 + 6), .ref (258 + 7), .ref (258 + 8)]), .inr (.inl (0, 12, fun _ => 0)), .inr (.inl (0, 6, fun _ => 0)), .inr (.inl (0, 6, fun _ => 0)), .inr (.inl (0, 6, fun _ => 0)), .inr (.inl (0, 6, fun _ => 0)), .inr (.inl (0, 6, fun _ => 0)), .inr (.inl (0, 6, fun _ => 0)), .inr (.inl (0, 6, fun _ => 0)), .inl (9, [.int 0, .int 0, .int 0, .int 0, .int 0, .null, .null, .null, .null, .null, .null, .null, .null])]) (s' := s + 82) rfl (by decide) (by decide) rfl rfl rfl rfl (by omega) ?_
  refine ax_s (pc' := 25) (st' := [.ref 267, .ref 267, .int 1, .ref 257, .ref 257, .ref 256]) rfl rfl rfl rfl ?_
  refine ax_call (vs := [.ref 267]) (rr := [.ref 267, .int 1, .ref 257, .ref 257, .ref 256]) rfl rfl rfl (in_w (L0 := [.inl (5, [.null]), .inr (.inr (0, 2, va_up (fun _ => none) 0 (some 258))), .inl (9, [.int 0, .int 0, .int 0, .int 0, .int 0, .ref (258 + 1), .ref (258 + 2), .ref (258 + 3), .ref (258 + 4), .ref (258 + 5), .ref (258 + 6), .ref (258 + 7), .ref (258 + 8)]), .inr (.inl (0, 12, fun _ => 0)), .inr (.inl (0, 6, fun _ => 0)), .inr (.inl (0, 6, fun _ => 0)), .inr (.inl (0, 6, fun _ => 0)), .inr (.inl (0, 6, fun _ => 0)), .inr (.inl (0, 6, fun _ => 0)), .inr (.inl (0, 6, fun _ => 0)), .inr (.inl (0, 6, fun _ => 0))]) (c := .inl (9, [.int 0, .int 0, .int 0, .int 0, .int 0, .null, .null, .null, .null, .null, .null, .null, .null])) (k := 54) (C := xW 267) (in_wheel_w (by decide)) (by decide) rfl ?_)
  show am_ex _ 5 28 _ [.ref 267, .int 1, .ref 257, .ref 257, .ref 256] (am_ext h 256 [.inl (5, [.null]), .inr (.inr (0, 2, va_up (fun _ => none) 0 (some 258))), .inl (9, [.int 0, .int 0, .int 0, .int 0, .int 0, .ref (258 + 1), .ref (258 + 2), .ref (258 + 3), .ref (258 + 4), .ref (258 + 5), .ref (258 + 6), .ref (258 + 7), .ref (258 + 8)]), .inr (.inl (0, 12, fun _ => 0)), .inr (.inl (0, 6, fun _ => 0)), .inr (.inl (0, 6, fun _ => 0)), .inr (.inl (0, 6, fun _ => 0)), .inr (.inl (0, 6, fun _ => 0)), .inr (.inl (0, 6, fun _ => 0)), .inr (.inl (0, 6, fun _ => 0)), .inr (.inl (0, 6, fun _ => 0)), .inl (9, [.int 0, .int 0, .int 0, .int 0, .int 0, .ref (267 + 1), .ref (267 + 2), .ref (267 + 3), .ref (267 + 4), .ref (267 + 5), .ref (267 + 6), .ref (267 + 7), .ref (267 + 8)]), .inr (.inl (0, 12, fun _ => 0)), .inr (.inl (0, 6, fun _ => 0)), .inr (.inl (0, 6, fun _ => 0)), .inr (.inl (0, 6, fun _ => 0)), .inr (.inl (0, 6, fun _ => 0)), .inr (.inl (0, 6, fun _ => 0)), .inr (.inl (0, 6, fun _ => 0)), .inr (.inl (0, 6, fun _ => 0))] (s + 136)) _
  refine ax_qst (j := 1) rfl (ext_at (i := 1) rfl) (ext_at (i := 11) rfl) (ext_mut (i := 11) (by decide) (Nat.le_of_ble_eq_true rfl)) (ext_mut (i := 1) (by decide) (Nat.le_of_ble_eq_true rfl)) rfl (by decide) (by decide) (ext_set (i := 1) (L' := [.inl (5, [.null]), .inr (.inr (0, 2, va_up (va_up (fun _ => none) 0 (some 258)) 1 (some 267))), .inl (9, [.int 0, .int 0, .int 0, .int 0, .int 0, .ref (258 + 1), .ref (258 + 2), .ref (258 + 3), .ref (258 + 4), .ref (258 + 5), .ref (258 + 6), .ref (258 + 7), .ref (258 + 8)]), .inr (.inl (0, 12, fun _ => 0)), .inr (.inl (0, 6, fun _ => 0)), .inr (.inl (0, 6, fun _ => 0)), .inr (.inl (0, 6, fun _ => 0)), .inr (.inl (0, 6, fun _ => 0)), .inr (.inl (0, 6, fun _ => 0)), .inr (.inl (0, 6, fun _ => 0)), .inr (.inl (0, 6, fun _ => 0)), .inl (9, [.int 0, .int 0, .int 0, .int 0, .int 0, .ref (267 + 1), .ref (267 + 2), .ref (267 + 3), .ref (267 + 4), .ref (267 + 5), .ref (267 + 6), .ref (267 + 7), .ref (267 + 8)]), .inr (.inl (0, 12, fun _ => 0)), .inr (.inl (0, 6, fun _ => 0)), .inr (.inl (0, 6, fun _ => 0)), .inr (.inl (0, 6, fun _ => 0)), .inr (.inl (0, 6, fun _ => 0)), .inr (.inl (0, 6, fun _ => 0)), .inr (.inl (0, 6, fun _ => 0)), .inr (.inl (0, 6, fun _ => 0))]) (Nat.le_of_ble_eq_true rfl) rfl) ?_
  refine ax_put rfl (ext_at (i := 0) rfl) (ext_mut (i := 0) (by decide) (Nat.le_of_ble_eq_true rfl)) rfl (Nat.le_of_ble_eq_true rfl) rfl (ext_set (i := 0) (L' := [.inl (5, [.ref 257]), .inr (.inr (0, 2, va_up (va_up (fun _ => none) 0 (some 258)) 1 (some 267))), .inl (9, [.int 0, .int 0, .int 0, .int 0, .int 0, .ref (258 + 1), .ref (258 + 2), .ref (258 + 3), .ref (258 + 4), .ref (258 + 5), .ref (258 + 6), .ref (258 + 7), .ref (258 + 8)]), .inr (.inl (0, 12, fun _ => 0)), .inr (.inl (0, 6, fun _ => 0)), .inr (.inl (0, 6, fun _ => 0)), .inr (.inl (0, 6, fun _ => 0)), .inr (.inl (0, 6, fun _ => 0)), .inr (.inl (0, 6, fun _ => 0)), .inr (.inl (0, 6, fun _ => 0)), .inr (.inl (0, 6, fun _ => 0)), .inl (9, [.int 0, .int 0, .int 0, .int 0, .int 0, .ref (267 + 1), .ref (267 + 2), .ref (267 + 3), .ref (267 + 4), .ref (267 + 5), .ref (267 + 6), .ref (267 + 7), .ref (267 + 8)]), .inr (.inl (0, 12, fun _ => 0)), .inr (.inl (0, 6, fun _ => 0)), .inr (.inl (0, 6, fun _ => 0)), .inr (.inl (0, 6, fun _ => 0)), .inr (.inl (0, 6, fun _ => 0)), .inr (.inl (0, 6, fun _ => 0)), .inr (.inl (0, 6, fun _ => 0)), .inr (.inl (0, 6, fun _ => 0))]) (Nat.le_of_ble_eq_true rfl) rfl) ?_
  refine ax_r rfl rfl rfl ?_
  exact hQ
