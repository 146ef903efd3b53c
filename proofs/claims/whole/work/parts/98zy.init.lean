theorem in_wheel {d : Nat} {h : am_H} {s : Nat} {Q : Option Value → am_H → Prop} {w : Nat} (hw : 5 ≤ w) (hQ : Q none (am_ext h w [.inl (9, [.int 0, .int 0, .int 0, .int 0, .int 0, .ref (w + 1), .ref (w + 2), .ref (w + 3), .ref (w + 4), .ref (w + 5), .ref (w + 6), .ref (w + 7), .ref (w + 8)]), .inr (.inl (0, 12, fun _ => 0)), .inr (.inl (0, 6, fun _ => 0)), .inr (.inl (0, 6, fun _ => 0)), .inr (.inl (0, 6, fun _ => 0)), .inr (.inl (0, 6, fun _ => 0)), .inr (.inl (0, 6, fun _ => 0)), .inr (.inl (0, 6, fun _ => 0)), .inr (.inl (0, 6, fun _ => 0))] (s + 54))) : am_mt (d + 1) 3 [.ref w] (am_ext h w [.inl (9, [.int 0, .int 0, .int 0, .int 0, .int 0, .null, .null, .null, .null, .null, .null, .null, .null])] s) Q := by
  refine ax_in (ls := [some (.ref w)]) rfl ?_
  refine ax_s (pc' := 1) (st' := [.ref w]) rfl rfl rfl rfl ?_
  refine ax_s (pc' := 4) (st' := []) rfl rfl rfl rfl ?_
  refine ax_s (pc' := 5) (st' := [.ref w]) rfl rfl rfl rfl ?_
  refine ax_s (pc' := 7) (st' := [.int 12, .ref w]) rfl rfl rfl rfl ?_
  refine ax_xnwa (n := 12) (b := (w + 1)) (L' := [.inl (9, [.int 0, .int 0, .int 0, .int 0, .int 0, .null, .null, .null, .null, .null, .null, .null, .null]), .inr (.inl (0, 12, fun _ => 0))]) (s' := s + 12) rfl hw (by decide) rfl rfl rfl (by omega) ?_
  refine ax_put rfl (ext_at (i := 0) rfl) (ext_mut (i := 0) hw (Nat.le_of_ble_eq_true rfl)) rfl (Nat.le_of_ble_eq_true rfl) rfl (ext_set (i := 0) (L' := [.inl (9, [.int 0, .int 0, .int 0, .int 0, .int 0, .ref (w + 1), .null, .null, .null, .null, .null, .null, .null]), .inr (.inl (0, 12, fun _ => 0))]) (Nat.le_of_ble_eq_true rfl) rfl) ?_
  refine ax_s (pc' := 13) (st' := [.ref w]) rfl rfl rfl rfl ?_
  refine ax_s (pc' := 15) (st' := [.int 6, .ref w]) rfl rfl rfl rfl ?_
  refine ax_xnwa (n := 6) (b := (w + 2)) (L' := [.inl (9, [.int 0, .int 0, .int 0, .int 0, .int 0, .ref (w + 1), .null, .null, .null, .null, .null, .null, .null]), .inr (.inl (0, 12, fun _ => 0)), .inr (.inl (0, 6, fun _ => 0))]) (s' := s + 18) rfl hw (by decide) rfl rfl rfl (by omega) ?_
  refine ax_put rfl (ext_at (i := 0) rfl) (ext_mut (i := 0) hw (Nat.le_of_ble_eq_true rfl)) rfl (Nat.le_of_ble_eq_true rfl) rfl (ext_set (i := 0) (L' := [.inl (9, [.int 0, .int 0, .int 0, .int 0, .int 0, .ref (w + 1), .ref (w + 2), .null, .null, .null, .null, .null, .null]), .inr (.inl (0, 12, fun _ => 0)), .inr (.inl (0, 6, fun _ => 0))]) (Nat.le_of_ble_eq_true rfl) rfl) ?_
  refine ax_s (pc' := 21) (st' := [.ref w]) rfl rfl rfl rfl ?_
  refine ax_s (pc' := 23) (st' := [.int 6, .ref w]) rfl rfl rfl rfl ?_
  refine ax_xnwa (n := 6) (b := (w + 3)) (L' := [.inl (9, [.int 0, .int 0, .int 0, .int 0, .int 0, .ref (w + 1), .ref (w + 2), .null, .null, .null, .null, .null, .null]), .inr (.inl (0, 12, fun _ => 0)), .inr (.inl (0, 6, fun _ => 0)), .inr (.inl (0, 6, fun _ => 0))]) (s' := s + 24) rfl hw (by decide) rfl rfl rfl (by omega) ?_
  refine ax_put rfl (ext_at (i := 0) rfl) (ext_mut (i := 0) hw (Nat.le_of_ble_eq_true rfl)) rfl (Nat.le_of_ble_eq_true rfl) rfl (ext_set (i := 0) (L' := [.inl (9, [.int 0, .int 0, .int 0, .int 0, .int 0, .ref (w + 1), .ref (w + 2), .ref (w + 3), .null, .null, .null, .null, .null]), .inr (.inl (0, 12, fun _ => 0)), .inr (.inl (0, 6, fun _ => 0)), .inr (.inl (0, 6, fun _ => 0))]) (Nat.le_of_ble_eq_true rfl) rfl) ?_
  refine ax_s (pc' := 29) (st' := [.ref w]) rfl rfl rfl rfl ?_
  refine ax_s (pc' := 31) (st' := [.int 6, .ref w]) rfl rfl rfl rfl ?_
  refine ax_xnwa (n := 6) (b := (w + 4)) (L' := [.inl (9, [.int 0, .int 0, .int 0, .int 0, .int 0, .ref (w + 1), .ref (w + 2), .ref (w + 3), .null, .null, .null, .null, .null]), .inr (.inl (0, 12, fun _ => 0)), .inr (.inl (0, 6, fun _ => 0)), .inr (.inl (0, 6, fun _ => 0)), .inr (.inl (0, 6, fun _ => 0))]) (s' := s + 30) rfl hw (by decide) rfl rfl rfl (by omega) ?_
  refine ax_put rfl (ext_at (i := 0) rfl) (ext_mut (i := 0) hw (Nat.le_of_ble_eq_true rfl)) rfl (Nat.le_of_ble_eq_true rfl) rfl (ext_set (i := 0) (L' := [.inl (9, [.int 0, .int 0, .int 0, .int 0, .int 0, .ref (w + 1), .ref (w + 2), .ref (w + 3), .ref (w + 4), .null, .null, .null, .null]), .inr (.inl (0, 12, fun _ => 0)), .inr (.inl (0, 6, fun _ => 0)), .inr (.inl (0, 6, fun _ => 0)), .inr (.inl (0, 6, fun _ => 0))]) (Nat.le_of_ble_eq_true rfl) rfl) ?_
  refine ax_s (pc' := 37) (st' := [.ref w]) rfl rfl rfl rfl ?_
  refine ax_s (pc' := 39) (st' := [.int 6, .ref w]) rfl rfl rfl rfl ?_
  refine ax_xnwa (n := 6) (b := (w + 5)) (L' := [.inl (9, [.int 0, .int 0, .int 0, .int 0, .int 0, .ref (w + 1), .ref (w + 2), .ref (w + 3), .ref (w + 4), .null, .null, .null, .null]), .inr (.inl (0, 12, fun _ => 0)), .inr (.inl (0, 6, fun _ => 0)), .inr (.inl (0, 6, fun _ => 0)), .inr (.inl (0, 6, fun _ => 0)), .inr (.inl (0, 6, fun _ => 0))]) (s' := s + 36) rfl hw (by decide) rfl rfl rfl (by omega) ?_
  refine ax_put rfl (ext_at (i := 0) rfl) (ext_mut (i := 0) hw (Nat.le_of_ble_eq_true rfl)) rfl (Nat.le_of_ble_eq_true rfl) rfl (ext_set (i := 0) (L' := [.inl (9, [.int 0, .int 0, .int 0, .int 0, .int 0, .ref (w + 1), .ref (w + 2), .ref (w + 3), .ref (w + 4), .ref (w + 5), .null, .null, .null]), .inr (.inl (0, 12, fun _ => 0)), .inr (.inl (0, 6, fun _ => 0)), .inr (.inl (0, 6, fun _ => 0)), .inr (.inl (0, 6, fun _ => 0)), .inr (.inl (0, 6, fun _ => 0))]) (Nat.le_of_ble_eq_true rfl) rfl) ?_
  refine ax_s (pc' := 45) (st' := [.ref w]) rfl rfl rfl rfl ?_
  refine ax_s (pc' := 47) (st' := [.int 6, .ref w]) rfl rfl rfl rfl ?_
  refine ax_xnwa (n := 6) (b := (w + 6)) (L' := [.inl (9, [.int 0, .int 0, .int 0, .int 0, .int 0, .ref (w + 1), .ref (w + 2), .ref (w + 3), .ref (w + 4), .ref (w + 5), .null, .null, .null]), .inr (.inl (0, 12, fun _ => 0)), .inr (.inl (0, 6, fun _ => 0)), .inr (.inl (0, 6, fun _ => 0)), .inr (.inl (0, 6, fun _ => 0)), .inr (.inl (0, 6, fun _ => 0)), .inr (.inl (0, 6, fun _ => 0))]) (s' := s + 42) rfl hw (by decide) rfl rfl rfl (by omega) ?_
  refine ax_put rfl (ext_at (i := 0) rfl) (ext_mut (i := 0) hw (Nat.le_of_ble_eq_true rfl)) rfl (Nat.le_of_ble_eq_true rfl) rfl (ext_set (i := 0) (L' := [.inl (9, [.int 0, .int 0, .int 0, .int 0, .int 0, .ref (w + 1), .ref (w + 2), .ref (w + 3), .ref (w + 4), .ref (w + 5), .ref (w + 6), .null, .null]), .inr (.inl (0, 12, fun _ => 0)), .inr (.inl (0, 6, fun _ => 0)), .inr (.inl (0, 6, fun _ => 0)), .inr (.inl (0, 6, fun _ => 0)), .inr (.inl (0, 6, fun _ => 0)), .inr (.inl (0, 6, fun _ => 0))]) (Nat.le_of_ble_eq_true rfl) rfl) ?_
  refine ax_s (pc' := 53) (st' := [.ref w]) rfl rfl rfl rfl ?_
  refine ax_s (pc' := 55) (st' := [.int 6, .ref w]) rfl rfl rfl rfl ?_
  refine ax_xnwa (n := 6) (b := (w + 7)) (L' := [.inl (9, [.int 0, .int 0, .int 0, .int 0, .int 0, .ref (w + 1), .ref (w + 2), .ref (w + 3), .ref (w + 4), .ref (w + 5), .ref (w + 6), .null, .null]), .inr (.inl (0, 12, fun _ => 0)), .inr (.inl (0, 6, fun _ => 0)), .inr (.inl (0, 6, fun _ => 0)), .inr (.inl (0, 6, fun _ => 0)), .inr (.inl (0, 6, fun _ => 0)), .inr (.inl (0, 6, fun _ => 0)), .inr (.inl (0, 6, fun _ => 0))]) (s' := s + 48) rfl hw (by decide) rfl rfl rfl (by omega) ?_
  refine ax_put rfl (ext_at (i := 0) rfl) (ext_mut (i := 0) hw (Nat.le_of_ble_eq_true rfl)) rfl (Nat.le_of_ble_eq_true rfl) rfl (ext_set (i := 0) (L' := [.inl (9, [.int 0, .int 0, .int 0, .int 0, .int 0, .ref (w + 1), .ref (w + 2), .ref (w + 3), .ref (w + 4), .ref (w + 5), .ref (w + 6), .ref (w + 7), .null]), .inr (.inl (0, 12, fun _ => 0)), .inr (.inl (0, 6, fun _ => 0)), .inr (.inl (0, 6, fun _ => 0)), .inr (.inl (0, 6, fun _ => 0)), .inr (.inl (0, 6, fun _ => 0)), .inr (.inl (0, 6, fun _ => 0)), .inr (.inl (0, 6, fun _ => 0))]) (Nat.le_of_ble_eq_true rfl) rfl) ?_
  refine ax_s (pc' := 61) (st' := [.ref w]) rfl rfl rfl rfl ?_
  refine ax_s (pc' := 63) (st' := [.int 6, .ref w]) rfl rfl rfl rfl ?_
  refine ax_xnwa (n := 6) (b := (w + 8)) (L' := [.inl (9, [.int 0, .int 0, .int 0, .int 0, .int 0, .ref (w + 1), .ref (w + 2), .ref (w + 3), .ref (w + 4), .ref (w + 5), .ref (w + 6), .ref (w + 7), .null]), .inr (.inl (0, 12, fun _ => 0)), .inr (.inl (0, 6, fun _ => 0)), .inr (.inl (0, 6, fun _ => 0)), .inr (.inl (0, 6, fun _ => 0)), .inr (.inl (0, 6, fun _ => 0)), .inr (.inl (0, 6, fun _ => 0)), .inr (.inl (0, 6, fun _ => 0)), .inr (.inl (0, 6, fun _ => 0))]) (s' := s + 54) rfl hw (by decide) rfl rfl rfl (by omega) ?_
  refine ax_put rfl (ext_at (i := 0) rfl) (ext_mut (i := 0) hw (Nat.le_of_ble_eq_true rfl)) rfl (Nat.le_of_ble_eq_true rfl) rfl (ext_set (i := 0) (L' := [.inl (9, [.int 0, .int 0, .int 0, .int 0, .int 0, .ref (w + 1), .ref (w + 2), .ref (w + 3), .ref (w + 4), .ref (w + 5), .ref (w + 6), .ref (w + 7), .ref (w + 8)]), .inr (.inl (0, 12, fun _ => 0)), .inr (.inl (0, 6, fun _ => 0)), .inr (.inl (0, 6, fun _ => 0)), .inr (.inl (0, 6, fun _ => 0)), .inr (.inl (0, 6, fun _ => 0)), .inr (.inl (0, 6, fun _ => 0)), .inr (.inl (0, 6, fun _ => 0)), .inr (.inl (0, 6, fun _ => 0))]) (Nat.le_of_ble_eq_true rfl) rfl) ?_
  refine ax_r rfl rfl rfl ?_
  exact hQ
theorem in_rows {d : Nat} {h : am_H} {s : Nat} {Q : Option Value → am_H → Prop} (hQ : Q none (am_ext h 6 [.inl (7, [.ref 7, .ref 16, .ref 17]), .inr (.inr (1, 8, fun i => if i < 8 then some (7 + 1 + i) else none)), .inr (.inl (0, 40, fun _ => 0)), .inr (.inl (0, 40, fun _ => 0)), .inr (.inl (0, 40, fun _ => 0)), .inr (.inl (0, 40, fun _ => 0)), .inr (.inl (0, 40, fun _ => 0)), .inr (.inl (0, 40, fun _ => 0)), .inr (.inl (0, 40, fun _ => 0)), .inr (.inl (0, 40, fun _ => 0)), .inr (.inl (0, 8, fun _ => 0)), .inr (.inl (0, 8, upd (upd (upd (upd (upd (upd (upd (upd (fun _ => 0) 0 (-1)) 1 (-1)) 2 (-1)) 3 (-1)) 4 (-1)) 5 (-1)) 6 (-1)) 7 (-1)))] (s + 344))) : am_mt (d + 1) 1 [.ref 6] (am_ext h 6 [.inl (7, [.null, .null, .null])] s) Q := by
  refine ax_in (ls := [some (.ref 6)]) rfl ?_
  refine ax_s (pc' := 1) (st' := [.ref 6]) rfl rfl rfl rfl ?_
  refine ax_s (pc' := 4) (st' := []) rfl rfl rfl rfl ?_
  refine ax_s (pc' := 5) (st' := [.ref 6]) rfl rfl rfl rfl ?_
  refine ax_s (pc' := 7) (st' := [.int 8, .ref 6]) rfl rfl rfl rfl ?_
  refine ax_s (pc' := 9) (st' := [.int 40, .int 8, .ref 6]) rfl rfl rfl rfl ?_
  refine ax_xnwg (n := 8) (k := 40) (b := 7) (L' := [.inl (7, [.null, .null, .null]), .inr (.inr (1, 8, fun i => if i < 8 then some (7 + 1 + i) else none)), .inr (.inl (0, 40, fun _ => 0)), .inr (.inl (0, 40, fun _ => 0)), .inr (.inl (0, 40, fun _ => 0)), .inr (.inl (0, 40, fun _ => 0)), .inr (.inl (0, 40, fun _ => 0)), .inr (.inl (0, 40, fun _ => 0)), .inr (.inl (0, 40, fun _ => 0)), .inr (.inl (0, 40, fun _ => 0))]) (s' := s + 328) rfl (by decide) (by decide) rfl rfl rfl rfl (by omega) ?_
  refine ax_put rfl (ext_at (i := 0) rfl) (ext_mut (i := 0) (by decide) (Nat.le_of_ble_eq_true rfl)) rfl (Nat.le_of_ble_eq_true rfl) rfl (ext_set (i := 0) (L' := [.inl (7, [.ref 7, .null, .null]), .inr (.inr (1, 8, fun i => if i < 8 then some (7 + 1 + i) else none)), .inr (.inl (0, 40, fun _ => 0)), .inr (.inl (0, 40, fun _ => 0)), .inr (.inl (0, 40, fun _ => 0)), .inr (.inl (0, 40, fun _ => 0)), .inr (.inl (0, 40, fun _ => 0)), .inr (.inl (0, 40, fun _ => 0)), .inr (.inl (0, 40, fun _ => 0)), .inr (.inl (0, 40, fun _ => 0))]) (Nat.le_of_ble_eq_true rfl) rfl) ?_
  refine ax_s (pc' := 17) (st' := [.ref 6]) rfl rfl rfl rfl ?_
  refine ax_s (pc' := 19) (st' := [.int 8, .ref 6]) rfl rfl rfl rfl ?_
  refine ax_xnwa (n := 8) (b := 16) (L' := [.inl (7, [.ref 7, .null, .null]), .inr (.inr (1, 8, fun i => if i < 8 then some (7 + 1 + i) else none)), .inr (.inl (0, 40, fun _ => 0)), .inr (.inl (0, 40, fun _ => 0)), .inr (.inl (0, 40, fun _ => 0)), .inr (.inl (0, 40, fun _ => 0)), .inr (.inl (0, 40, fun _ => 0)), .inr (.inl (0, 40, fun _ => 0)), .inr (.inl (0, 40, fun _ => 0)), .inr (.inl (0, 40, fun _ => 0)), .inr (.inl (0, 8, fun _ => 0))]) (s' := s + 336) rfl (by decide) (by decide) rfl rfl rfl (by omega) ?_
  refine ax_put rfl (ext_at (i := 0) rfl) (ext_mut (i := 0) (by decide) (Nat.le_of_ble_eq_true rfl)) rfl (Nat.le_of_ble_eq_true rfl) rfl (ext_set (i := 0) (L' := [.inl (7, [.ref 7, .ref 16, .null]), .inr (.inr (1, 8, fun i => if i < 8 then some (7 + 1 + i) else none)), .inr (.inl (0, 40, fun _ => 0)), .inr (.inl (0, 40, fun _ => 0)), .inr (.inl (0, 40, fun _ => 0)), .inr (.inl (0, 40, fun _ => 0)), .inr (.inl (0, 40, fun _ => 0)), .inr (.inl (0, 40, fun _ => 0)), .inr (.inl (0, 40, fun _ => 0)), .inr (.inl (0, 40, fun _ => 0)), .inr (.inl (0, 8, fun _ => 0))]) (Nat.le_of_ble_eq_true rfl) rfl) ?_
  refine ax_s (pc' := 25) (st' := [.ref 6]) rfl rfl rfl rfl ?_
  refine ax_s (pc' := 27) (st' := [.int 8, .ref 6]) rfl rfl rfl rfl ?_
  refine ax_xnwa (n := 8) (b := 17) (L' := [.inl (7, [.ref 7, .ref 16, .null]), .inr (.inr (1, 8, fun i => if i < 8 then some (7 + 1 + i) else none)), .inr (.inl (0, 40, fun _ => 0)), .inr (.inl (0, 40, fun _ => 0)), .inr (.inl (0, 40, fun _ => 0)), .inr (.inl (0, 40, fun _ => 0)), .inr (.inl (0, 40, fun _ => 0)), .inr (.inl (0, 40, fun _ => 0)), .inr (.inl (0, 40, fun _ => 0)), .inr (.inl (0, 40, fun _ => 0)), .inr (.inl (0, 8, fun _ => 0)), .inr (.inl (0, 8, fun _ => 0))]) (s' := s + 344) rfl (by decide) (by decide) rfl rfl rfl (by omega) ?_
  refine ax_s (pc' := 30) (st' := [.ref 17, .ref 17, .ref 6]) rfl rfl rfl rfl ?_
  refine ax_s (pc' := 31) (st' := [.int 0, .ref 17, .ref 17, .ref 6]) rfl rfl rfl rfl ?_
  refine ax_s (pc' := 32) (st' := [.int (-1), .int 0, .ref 17, .ref 17, .ref 6]) rfl rfl rfl rfl ?_
  refine ax_ast (j := 0) rfl (ext_at (i := 11) rfl) (ext_mut (i := 11) (by decide) (Nat.le_of_ble_eq_true rfl)) rfl (by decide) (by decide) (ext_set (i := 11) (L' := [.inl (7, [.ref 7, .ref 16, .null]), .inr (.inr (1, 8, fun i => if i < 8 then some (7 + 1 + i) else none)), .inr (.inl (0, 40, fun _ => 0)), .inr (.inl (0, 40, fun _ => 0)), .inr (.inl (0, 40, fun _ => 0)), .inr (.inl (0, 40, fun _ => 0)), .inr (.inl (0, 40, fun _ => 0)), .inr (.inl (0, 40, fun _ => 0)), .inr (.inl (0, 40, fun _ => 0)), .inr (.inl (0, 40, fun _ => 0)), .inr (.inl (0, 8, fun _ => 0)), .inr (.inl (0, 8, upd (fun _ => 0) 0 (-1)))]) (Nat.le_of_ble_eq_true rfl) rfl) ?_
  refine ax_s (pc' := 34) (st' := [.ref 17, .ref 17, .ref 6]) rfl rfl rfl rfl ?_
  refine ax_s (pc' := 35) (st' := [.int 1, .ref 17, .ref 17, .ref 6]) rfl rfl rfl rfl ?_
  refine ax_s (pc' := 36) (st' := [.int (-1), .int 1, .ref 17, .ref 17, .ref 6]) rfl rfl rfl rfl ?_
  refine ax_ast (j := 1) rfl (ext_at (i := 11) rfl) (ext_mut (i := 11) (by decide) (Nat.le_of_ble_eq_true rfl)) rfl (by decide) (by decide) (ext_set (i := 11) (L' := [.inl (7, [.ref 7, .ref 16, .null]), .inr (.inr (1, 8, fun i => if i < 8 then some (7 + 1 + i) else none)), .inr (.inl (0, 40, fun _ => 0)), .inr (.inl (0, 40, fun _ => 0)), .inr (.inl (0, 40, fun _ => 0)), .inr (.inl (0, 40, fun _ => 0)), .inr (.inl (0, 40, fun _ => 0)), .inr (.inl (0, 40, fun _ => 0)), .inr (.inl (0, 40, fun _ => 0)), .inr (.inl (0, 40, fun _ => 0)), .inr (.inl (0, 8, fun _ => 0)), .inr (.inl (0, 8, upd (upd (fun _ => 0) 0 (-1)) 1 (-1)))]) (Nat.le_of_ble_eq_true rfl) rfl) ?_
  refine ax_s (pc' := 38) (st' := [.ref 17, .ref 17, .ref 6]) rfl rfl rfl rfl ?_
  refine ax_s (pc' := 39) (st' := [.int 2, .ref 17, .ref 17, .ref 6]) rfl rfl rfl rfl ?_
  refine ax_s (pc' := 40) (st' := [.int (-1), .int 2, .ref 17, .ref 17, .ref 6]) rfl rfl rfl rfl ?_
  refine ax_ast (j := 2) rfl (ext_at (i := 11) rfl) (ext_mut (i := 11) (by decide) (Nat.le_of_ble_eq_true rfl)) rfl (by decide) (by decide) (ext_set (i := 11) (L' := [.inl (7, [.ref 7, .ref 16, .null]), .inr (.inr (1, 8, fun i => if i < 8 then some (7 + 1 + i) else none)), .inr (.inl (0, 40, fun _ => 0)), .inr (.inl (0, 40, fun _ => 0)), .inr (.inl (0, 40, fun _ => 0)), .inr (.inl (0, 40, fun _ => 0)), .inr (.inl (0, 40, fun _ => 0)), .inr (.inl (0, 40, fun _ => 0)), .inr (.inl (0, 40, fun _ => 0)), .inr (.inl (0, 40, fun _ => 0)), .inr (.inl (0, 8, fun _ => 0)), .inr (.inl (0, 8, upd (upd (upd (fun _ => 0) 0 (-1)) 1 (-1)) 2 (-1)))]) (Nat.le_of_ble_eq_true rfl) rfl) ?_
  refine ax_s (pc' := 42) (st' := [.ref 17, .ref 17, .ref 6]) rfl rfl rfl rfl ?_
  refine ax_s (pc' := 43) (st' := [.int 3, .ref 17, .ref 17, .ref 6]) rfl rfl rfl rfl ?_
  refine ax_s (pc' := 44) (st' := [.int (-1), .int 3, .ref 17, .ref 17, .ref 6]) rfl rfl rfl rfl ?_
  refine ax_ast (j := 3) rfl (ext_at (i := 11) rfl) (ext_mut (i := 11) (by decide) (Nat.le_of_ble_eq_true rfl)) rfl (by decide) (by decide) (ext_set (i := 11) (L' := [.inl (7, [.ref 7, .ref 16, .null]), .inr (.inr (1, 8, fun i => if i < 8 then some (7 + 1 + i) else none)), .inr (.inl (0, 40, fun _ => 0)), .inr (.inl (0, 40, fun _ => 0)), .inr (.inl (0, 40, fun _ => 0)), .inr (.inl (0, 40, fun _ => 0)), .inr (.inl (0, 40, fun _ => 0)), .inr (.inl (0, 40, fun _ => 0)), .inr (.inl (0, 40, fun _ => 0)), .inr (.inl (0, 40, fun _ => 0)), .inr (.inl (0, 8, fun _ => 0)), .inr (.inl (0, 8, upd (upd (upd (upd (fun _ => 0) 0 (-1)) 1 (-1)) 2 (-1)) 3 (-1)))]) (Nat.le_of_ble_eq_true rfl) rfl) ?_
  refine ax_s (pc' := 46) (st' := [.ref 17, .ref 17, .ref 6]) rfl rfl rfl rfl ?_
  refine ax_s (pc' := 47) (st' := [.int 4, .ref 17, .ref 17, .ref 6]) rfl rfl rfl rfl ?_
  refine ax_s (pc' := 48) (st' := [.int (-1), .int 4, .ref 17, .ref 17, .ref 6]) rfl rfl rfl rfl ?_
  refine ax_ast (j := 4) rfl (ext_at (i := 11) rfl) (ext_mut (i := 11) (by decide) (Nat.le_of_ble_eq_true rfl)) rfl (by decide) (by decide) (ext_set (i := 11) (L' := [.inl (7, [.ref 7, .ref 16, .null]), .inr (.inr (1, 8, fun i => if i < 8 then some (7 + 1 + i) else none)), .inr (.inl (0, 40, fun _ => 0)), .inr (.inl (0, 40, fun _ => 0)), .inr (.inl (0, 40, fun _ => 0)), .inr (.inl (0, 40, fun _ => 0)), .inr (.inl (0, 40, fun _ => 0)), .inr (.inl (0, 40, fun _ => 0)), .inr (.inl (0, 40, fun _ => 0)), .inr (.inl (0, 40, fun _ => 0)), .inr (.inl (0, 8, fun _ => 0)), .inr (.inl (0, 8, upd (upd (upd (upd (upd (fun _ => 0) 0 (-1)) 1 (-1)) 2 (-1)) 3 (-1)) 4 (-1)))]) (Nat.le_of_ble_eq_true rfl) rfl) ?_
  refine ax_s (pc' := 50) (st' := [.ref 17, .ref 17, .ref 6]) rfl rfl rfl rfl ?_
  refine ax_s (pc' := 51) (st' := [.int 5, .ref 17, .ref 17, .ref 6]) rfl rfl rfl rfl ?_
  refine ax_s (pc' := 52) (st' := [.int (-1), .int 5, .ref 17, .ref 17, .ref 6]) rfl rfl rfl rfl ?_
  refine ax_ast (j := 5) rfl (ext_at (i := 11) rfl) (ext_mut (i := 11) (by decide) (Nat.le_of_ble_eq_true rfl)) rfl (by decide) (by decide) (ext_set (i := 11) (L' := [.inl (7, [.ref 7, .ref 16, .null]), .inr (.inr (1, 8, fun i => if i < 8 then some (7 + 1 + i) else none)), .inr (.inl (0, 40, fun _ => 0)), .inr (.inl (0, 40, fun _ => 0)), .inr (.inl (0, 40, fun _ => 0)), .inr (.inl (0, 40, fun _ => 0)), .inr (.inl (0, 40, fun _ => 0)), .inr (.inl (0, 40, fun _ => 0)), .inr (.inl (0, 40, fun _ => 0)), .inr (.inl (0, 40, fun _ => 0)), .inr (.inl (0, 8, fun _ => 0)), .inr (.inl (0, 8, upd (upd (upd (upd (upd (upd (fun _ => 0) 0 (-1)) 1 (-1)) 2 (-1)) 3 (-1)) 4 (-1)) 5 (-1)))]) (Nat.le_of_ble_eq_true rfl) rfl) ?_
  refine ax_s (pc' := 54) (st' := [.ref 17, .ref 17, .ref 6]) rfl rfl rfl rfl ?_
  refine ax_s (pc' := 56) (st' := [.int 6, .ref 17, .ref 17, .ref 6]) rfl rfl rfl rfl ?_
  refine ax_s (pc' := 57) (st' := [.int (-1), .int 6, .ref 17, .ref 17, .ref 6]) rfl rfl rfl rfl ?_
  refine ax_ast (j := 6) rfl (ext_at (i := 11) rfl) (ext_mut (i := 11) (by decide) (Nat.le_of_ble_eq_true rfl)) rfl (by decide) (by decide) (ext_set (i := 11) (L' := [.inl (7, [.ref 7, .ref 16, .null]), .inr (.inr (1, 8, fun i => if i < 8 then some (7 + 1 + i) else none)), .inr (.inl (0, 40, fun _ => 0)), .inr (.inl (0, 40, fun _ => 0)), .inr (.inl (0, 40, fun _ => 0)), .inr (.inl (0, 40, fun _ => 0)), .inr (.inl (0, 40, fun _ => 0)), .inr (.inl (0, 40, fun _ => 0)), .inr (.inl (0, 40, fun _ => 0)), .inr (.inl (0, 40, fun _ => 0)), .inr (.inl (0, 8, fun _ => 0)), .inr (.inl (0, 8, upd (upd (upd (upd (upd (upd (upd (fun _ => 0) 0 (-1)) 1 (-1)) 2 (-1)) 3 (-1)) 4 (-1)) 5 (-1)) 6 (-1)))]) (Nat.le_of_ble_eq_true rfl) rfl) ?_
  refine ax_s (pc' := 59) (st' := [.ref 17, .ref 17, .ref 6]) rfl rfl rfl rfl ?_
  refine ax_s (pc' := 61) (st' := [.int 7, .ref 17, .ref 17, .ref 6]) rfl rfl rfl rfl ?_
  refine ax_s (pc' := 62) (st' := [.int (-1), .int 7, .ref 17, .ref 17, .ref 6]) rfl rfl rfl rfl ?_
  refine ax_ast (j := 7) rfl (ext_at (i := 11) rfl) (ext_mut (i := 11) (by decide) (Nat.le_of_ble_eq_true rfl)) rfl (by decide) (by decide) (ext_set (i := 11) (L' := [.inl (7, [.ref 7, .ref 16, .null]), .inr (.inr (1, 8, fun i => if i < 8 then some (7 + 1 + i) else none)), .inr (.inl (0, 40, fun _ => 0)), .inr (.inl (0, 40, fun _ => 0)), .inr (.inl (0, 40, fun _ => 0)), .inr (.inl (0, 40, fun _ => 0)), .inr (.inl (0, 40, fun _ => 0)), .inr (.inl (0, 40, fun _ => 0)), .inr (.inl (0, 40, fun _ => 0)), .inr (.inl (0, 40, fun _ => 0)), .inr (.inl (0, 8, fun _ => 0)), .inr (.inl (0, 8, upd (upd (upd (upd (upd (upd (upd (upd (fun _ => 0) 0 (-1)) 1 (-1)) 2 (-1)) 3 (-1)) 4 (-1)) 5 (-1)) 6 (-1)) 7 (-1)))]) (Nat.le_of_ble_eq_true rfl) rfl) ?_
  refine ax_put rfl (ext_at (i := 0) rfl) (ext_mut (i := 0) (by decide) (Nat.le_of_ble_eq_true rfl)) rfl (Nat.le_of_ble_eq_true rfl) rfl (ext_set (i := 0) (L' := [.inl (7, [.ref 7, .ref 16, .ref 17]), .inr (.inr (1, 8, fun i => if i < 8 then some (7 + 1 + i) else none)), .inr (.inl (0, 40, fun _ => 0)), .inr (.inl (0, 40, fun _ => 0)), .inr (.inl (0, 40, fun _ => 0)), .inr (.inl (0, 40, fun _ => 0)), .inr (.inl (0, 40, fun _ => 0)), .inr (.inl (0, 40, fun _ => 0)), .inr (.inl (0, 40, fun _ => 0)), .inr (.inl (0, 40, fun _ => 0)), .inr (.inl (0, 8, fun _ => 0)), .inr (.inl (0, 8, upd (upd (upd (upd (upd (upd (upd (upd (fun _ => 0) 0 (-1)) 1 (-1)) 2 (-1)) 3 (-1)) 4 (-1)) 5 (-1)) 6 (-1)) 7 (-1)))]) (Nat.le_of_ble_eq_true rfl) rfl) ?_
  refine ax_r rfl rfl rfl ?_
  exact hQ
theorem in_tape {d : Nat} {h : am_H} {s : Nat} {Q : Option Value → am_H → Prop} (hQ : Q none (am_ext h 18 [.inl (8, [.ref 19, .int 0, .int 0, .int 0]), .inr (.inl (0, 100, fun _ => 0))] (s + 100))) : am_mt (d + 1) 2 [.ref 18] (am_ext h 18 [.inl (8, [.null, .int 0, .int 0, .int 0])] s) Q := by
  refine ax_in (ls := [some (.ref 18)]) rfl ?_
  refine ax_s (pc' := 1) (st' := [.ref 18]) rfl rfl rfl rfl ?_
  refine ax_s (pc' := 4) (st' := []) rfl rfl rfl rfl ?_
  refine ax_s (pc' := 5) (st' := [.ref 18]) rfl rfl rfl rfl ?_
  refine ax_s (pc' := 7) (st' := [.int 100, .ref 18]) rfl rfl rfl rfl ?_
  refine ax_xnwa (n := 100) (b := 19) (L' := [.inl (8, [.null, .int 0, .int 0, .int 0]), .inr (.inl (0, 100, fun _ => 0))]) (s' := s + 100) rfl (by decide) (by decide) rfl rfl rfl (by omega) ?_
  refine ax_put rfl (ext_at (i := 0) rfl) (ext_mut (i := 0) (by decide) (Nat.le_of_ble_eq_true rfl)) rfl (Nat.le_of_ble_eq_true rfl) rfl (ext_set (i := 0) (L' := [.inl (8, [.ref 19, .int 0, .int 0, .int 0]), .inr (.inl (0, 100, fun _ => 0))]) (Nat.le_of_ble_eq_true rfl) rfl) ?_
  refine ax_r rfl rfl rfl ?_
  exact hQ
theorem in_fore {d : Nat} {h : am_H} {s : Nat} {Q : Option Value → am_H → Prop} (hQ : Q none (am_ext h 276 [.inl (3, [.ref 20, .ref 29])] s)) : am_mt (d + 1) 6 [.ref 276, .ref 20, .ref 29] (am_ext h 276 [.inl (3, [.null, .null])] s) Q := by
  refine ax_in (ls := [some (.ref 276), some (.ref 20), some (.ref 29)]) rfl ?_
  refine ax_s (pc' := 1) (st' := [.ref 276]) rfl rfl rfl rfl ?_
  refine ax_s (pc' := 4) (st' := []) rfl rfl rfl rfl ?_
  refine ax_s (pc' := 5) (st' := [.ref 276]) rfl rfl rfl rfl ?_
  refine ax_s (pc' := 6) (st' := [.ref 20, .ref 276]) rfl rfl rfl rfl ?_
  refine ax_put rfl (ext_at (i := 0) rfl) (ext_mut (i := 0) (by decide) (Nat.le_of_ble_eq_true rfl)) rfl (Nat.le_of_ble_eq_true rfl) rfl (ext_set (i := 0) (L' := [.inl (3, [.ref 20, .null])]) (Nat.le_of_ble_eq_true rfl) rfl) ?_
  refine ax_s (pc' := 10) (st' := [.ref 276]) rfl rfl rfl rfl ?_
  refine ax_s (pc' := 11) (st' := [.ref 29, .ref 276]) rfl rfl rfl rfl ?_
  refine ax_put rfl (ext_at (i := 0) rfl) (ext_mut (i := 0) (by decide) (Nat.le_of_ble_eq_true rfl)) rfl (Nat.le_of_ble_eq_true rfl) rfl (ext_set (i := 0) (L' := [.inl (3, [.ref 20, .ref 29])]) (Nat.le_of_ble_eq_true rfl) rfl) ?_
  refine ax_r rfl rfl rfl ?_
  exact hQ
theorem in_plan {d : Nat} {h : am_H} {s : Nat} {Q : Option Value → am_H → Prop} (hQ : Q none (am_ext h 277 [.inl (6, [.ref 20, .ref 29, .ref 278, .int 0, .int 0, .ref 279, .int 0, .int 0, .int 0]), .inr (.inl (0, 6, fun _ => 0)), .inr (.inl (0, 6, fun _ => 0))] (s + 12))) : am_mt (d + 1) 7 [.ref 277, .ref 20, .ref 29] (am_ext h 277 [.inl (6, [.null, .null, .null, .int 0, .int 0, .null, .int 0, .int 0, .int 0])] s) Q := by
  refine ax_in (ls := [some (.ref 277), some (.ref 20), some (.ref 29)]) rfl ?_
  refine ax_s (pc' := 1) (st' := [.ref 277]) rfl rfl rfl rfl ?_
  refine ax_s (pc' := 4) (st' := []) rfl rfl rfl rfl ?_
  refine ax_s (pc' := 5) (st' := [.ref 277]) rfl rfl rfl rfl ?_
  refine ax_s (pc' := 7) (st' := [.int 6, .ref 277]) rfl rfl rfl rfl ?_
  refine ax_xnwa (n := 6) (b := 278) (L' := [.inl (6, [.null, .null, .null, .int 0, .int 0, .null, .int 0, .int 0, .int 0]), .inr (.inl (0, 6, fun _ => 0))]) (s' := s + 6) rfl (by decide) (by decide) rfl rfl rfl (by omega) ?_
  refine ax_put rfl (ext_at (i := 0) rfl) (ext_mut (i := 0) (by decide) (Nat.le_of_ble_eq_true rfl)) rfl (Nat.le_of_ble_eq_true rfl) rfl (ext_set (i := 0) (L' := [.inl (6, [.null, .null, .ref 278, .int 0, .int 0, .null, .int 0, .int 0, .int 0]), .inr (.inl (0, 6, fun _ => 0))]) (Nat.le_of_ble_eq_true rfl) rfl) ?_
  refine ax_s (pc' := 13) (st' := [.ref 277]) rfl rfl rfl rfl ?_
  refine ax_s (pc' := 15) (st' := [.int 6, .ref 277]) rfl rfl rfl rfl ?_
  refine ax_xnwa (n := 6) (b := 279) (L' := [.inl (6, [.null, .null, .ref 278, .int 0, .int 0, .null, .int 0, .int 0, .int 0]), .inr (.inl (0, 6, fun _ => 0)), .inr (.inl (0, 6, fun _ => 0))]) (s' := s + 12) rfl (by decide) (by decide) rfl rfl rfl (by omega) ?_
  refine ax_put rfl (ext_at (i := 0) rfl) (ext_mut (i := 0) (by decide) (Nat.le_of_ble_eq_true rfl)) rfl (Nat.le_of_ble_eq_true rfl) rfl (ext_set (i := 0) (L' := [.inl (6, [.null, .null, .ref 278, .int 0, .int 0, .ref 279, .int 0, .int 0, .int 0]), .inr (.inl (0, 6, fun _ => 0)), .inr (.inl (0, 6, fun _ => 0))]) (Nat.le_of_ble_eq_true rfl) rfl) ?_
  refine ax_s (pc' := 21) (st' := [.ref 277]) rfl rfl rfl rfl ?_
  refine ax_s (pc' := 22) (st' := [.ref 20, .ref 277]) rfl rfl rfl rfl ?_
  refine ax_put rfl (ext_at (i := 0) rfl) (ext_mut (i := 0) (by decide) (Nat.le_of_ble_eq_true rfl)) rfl (Nat.le_of_ble_eq_true rfl) rfl (ext_set (i := 0) (L' := [.inl (6, [.ref 20, .null, .ref 278, .int 0, .int 0, .ref 279, .int 0, .int 0, .int 0]), .inr (.inl (0, 6, fun _ => 0)), .inr (.inl (0, 6, fun _ => 0))]) (Nat.le_of_ble_eq_true rfl) rfl) ?_
  refine ax_s (pc' := 26) (st' := [.ref 277]) rfl rfl rfl rfl ?_
  refine ax_s (pc' := 27) (st' := [.ref 29, .ref 277]) rfl rfl rfl rfl ?_
  refine ax_put rfl (ext_at (i := 0) rfl) (ext_mut (i := 0) (by decide) (Nat.le_of_ble_eq_true rfl)) rfl (Nat.le_of_ble_eq_true rfl) rfl (ext_set (i := 0) (L' := [.inl (6, [.ref 20, .ref 29, .ref 278, .int 0, .int 0, .ref 279, .int 0, .int 0, .int 0]), .inr (.inl (0, 6, fun _ => 0)), .inr (.inl (0, 6, fun _ => 0))]) (Nat.le_of_ble_eq_true rfl) rfl) ?_
  refine ax_r rfl rfl rfl ?_
  exact hQ
theorem in_guess {d : Nat} {h : am_H} {s : Nat} {Q : Option Value → am_H → Prop} (hQ : Q none (am_ext h 280 [.inl (4, [.ref 20, .ref 29])] s)) : am_mt (d + 1) 8 [.ref 280, .ref 20, .ref 29] (am_ext h 280 [.inl (4, [.null, .null])] s) Q := by
  refine ax_in (ls := [some (.ref 280), some (.ref 20), some (.ref 29)]) rfl ?_
  refine ax_s (pc' := 1) (st' := [.ref 280]) rfl rfl rfl rfl ?_
  refine ax_s (pc' := 4) (st' := []) rfl rfl rfl rfl ?_
  refine ax_s (pc' := 5) (st' := [.ref 280]) rfl rfl rfl rfl ?_
  refine ax_s (pc' := 6) (st' := [.ref 20, .ref 280]) rfl rfl rfl rfl ?_
  refine ax_put rfl (ext_at (i := 0) rfl) (ext_mut (i := 0) (by decide) (Nat.le_of_ble_eq_true rfl)) rfl (Nat.le_of_ble_eq_true rfl) rfl (ext_set (i := 0) (L' := [.inl (4, [.ref 20, .null])]) (Nat.le_of_ble_eq_true rfl) rfl) ?_
  refine ax_s (pc' := 10) (st' := [.ref 280]) rfl rfl rfl rfl ?_
  refine ax_s (pc' := 11) (st' := [.ref 29, .ref 280]) rfl rfl rfl rfl ?_
  refine ax_put rfl (ext_at (i := 0) rfl) (ext_mut (i := 0) (by decide) (Nat.le_of_ble_eq_true rfl)) rfl (Nat.le_of_ble_eq_true rfl) rfl (ext_set (i := 0) (L' := [.inl (4, [.ref 20, .ref 29])]) (Nat.le_of_ble_eq_true rfl) rfl) ?_
  refine ax_r rfl rfl rfl ?_
  exact hQ
theorem in_chan {d : Nat} {h : am_H} {s : Nat} {Q : Option Value → am_H → Prop} (hQ : Q none (am_ext h 281 [.inl (2, [.ref 20, .ref 29, .ref 282, .long 0, .long 0]), .inr (.inl (0, 16, fun _ => 0))] (s + 16))) : am_mt (d + 1) 9 [.ref 281, .ref 20, .ref 29] (am_ext h 281 [.inl (2, [.null, .null, .null, .long 0, .long 0])] s) Q := by
  refine ax_in (ls := [some (.ref 281), some (.ref 20), some (.ref 29)]) rfl ?_
  refine ax_s (pc' := 1) (st' := [.ref 281]) rfl rfl rfl rfl ?_
  refine ax_s (pc' := 4) (st' := []) rfl rfl rfl rfl ?_
  refine ax_s (pc' := 5) (st' := [.ref 281]) rfl rfl rfl rfl ?_
  refine ax_s (pc' := 7) (st' := [.int 16, .ref 281]) rfl rfl rfl rfl ?_
  refine ax_xnwa (n := 16) (b := 282) (L' := [.inl (2, [.null, .null, .null, .long 0, .long 0]), .inr (.inl (0, 16, fun _ => 0))]) (s' := s + 16) rfl (by decide) (by decide) rfl rfl rfl (by omega) ?_
  refine ax_put rfl (ext_at (i := 0) rfl) (ext_mut (i := 0) (by decide) (Nat.le_of_ble_eq_true rfl)) rfl (Nat.le_of_ble_eq_true rfl) rfl (ext_set (i := 0) (L' := [.inl (2, [.null, .null, .ref 282, .long 0, .long 0]), .inr (.inl (0, 16, fun _ => 0))]) (Nat.le_of_ble_eq_true rfl) rfl) ?_
  refine ax_s (pc' := 13) (st' := [.ref 281]) rfl rfl rfl rfl ?_
  refine ax_s (pc' := 14) (st' := [.ref 20, .ref 281]) rfl rfl rfl rfl ?_
  refine ax_put rfl (ext_at (i := 0) rfl) (ext_mut (i := 0) (by decide) (Nat.le_of_ble_eq_true rfl)) rfl (Nat.le_of_ble_eq_true rfl) rfl (ext_set (i := 0) (L' := [.inl (2, [.ref 20, .null, .ref 282, .long 0, .long 0]), .inr (.inl (0, 16, fun _ => 0))]) (Nat.le_of_ble_eq_true rfl) rfl) ?_
  refine ax_s (pc' := 18) (st' := [.ref 281]) rfl rfl rfl rfl ?_
  refine ax_s (pc' := 19) (st' := [.ref 29, .ref 281]) rfl rfl rfl rfl ?_
  refine ax_put rfl (ext_at (i := 0) rfl) (ext_mut (i := 0) (by decide) (Nat.le_of_ble_eq_true rfl)) rfl (Nat.le_of_ble_eq_true rfl) rfl (ext_set (i := 0) (L' := [.inl (2, [.ref 20, .ref 29, .ref 282, .long 0, .long 0]), .inr (.inl (0, 16, fun _ => 0))]) (Nat.le_of_ble_eq_true rfl) rfl) ?_
  refine ax_r rfl rfl rfl ?_
  exact hQ
theorem in_asks {d : Nat} {h : am_H} {s : Nat} {Q : Option Value → am_H → Prop} (hQ : Q none (am_ext h 283 [.inl (1, [.ref 20, .ref 284, .int 0]), .inr (.inl (0, 16, fun _ => 0))] (s + 16))) : am_mt (d + 1) 10 [.ref 283, .ref 20] (am_ext h 283 [.inl (1, [.null, .null, .int 0])] s) Q := by
  refine ax_in (ls := [some (.ref 283), some (.ref 20)]) rfl ?_
  refine ax_s (pc' := 1) (st' := [.ref 283]) rfl rfl rfl rfl ?_
  refine ax_s (pc' := 4) (st' := []) rfl rfl rfl rfl ?_
  refine ax_s (pc' := 5) (st' := [.ref 283]) rfl rfl rfl rfl ?_
  refine ax_s (pc' := 7) (st' := [.int 16, .ref 283]) rfl rfl rfl rfl ?_
  refine ax_xnwa (n := 16) (b := 284) (L' := [.inl (1, [.null, .null, .int 0]), .inr (.inl (0, 16, fun _ => 0))]) (s' := s + 16) rfl (by decide) (by decide) rfl rfl rfl (by omega) ?_
  refine ax_put rfl (ext_at (i := 0) rfl) (ext_mut (i := 0) (by decide) (Nat.le_of_ble_eq_true rfl)) rfl (Nat.le_of_ble_eq_true rfl) rfl (ext_set (i := 0) (L' := [.inl (1, [.null, .ref 284, .int 0]), .inr (.inl (0, 16, fun _ => 0))]) (Nat.le_of_ble_eq_true rfl) rfl) ?_
  refine ax_s (pc' := 13) (st' := [.ref 283]) rfl rfl rfl rfl ?_
  refine ax_s (pc' := 14) (st' := [.ref 20, .ref 283]) rfl rfl rfl rfl ?_
  refine ax_put rfl (ext_at (i := 0) rfl) (ext_mut (i := 0) (by decide) (Nat.le_of_ble_eq_true rfl)) rfl (Nat.le_of_ble_eq_true rfl) rfl (ext_set (i := 0) (L' := [.inl (1, [.ref 20, .ref 284, .int 0]), .inr (.inl (0, 16, fun _ => 0))]) (Nat.le_of_ble_eq_true rfl) rfl) ?_
  refine ax_r rfl rfl rfl ?_
  exact hQ
