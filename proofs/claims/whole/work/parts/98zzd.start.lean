theorem wl_minit {d : Nat} {X : Nat × (Nat → Int32)} {S : Nat → Nat → Int32} {L : Nat → Int64} {Q : Option Value → am_H → Prop}  (k1 : ∀ S10 : Nat → Nat → Int32, JK S10 → (∀ a, a ≠ 297 → S10 a = (am_u (am_u (am_u (am_u (am_u (am_u (am_u (am_u S 287 0 (-1)) 287 1 (-1)) 287 2 (-1)) 287 3 (-1)) 287 4 (-1)) 287 5 (-1)) 287 6 (-1)) 287 7 (-1)) a) → Q none (am_hh X S10 L)) : am_ex (d + 3) 146 164 [some (.ref 285), none] [] (am_hh X S L) Q := by
  refine ax_s (pc' := 165) (st' := [.int 0]) rfl rfl rfl rfl ?_
  refine ax_s (pc' := 166) (ls' := [some (.ref 285), some (.int 0)]) (st' := []) rfl rfl rfl rfl ?_
  refine ax_s (pc' := 167) (st' := [.int 0]) rfl rfl rfl rfl ?_
  refine ax_s (pc' := 169) (st' := [.int 8, .int 0]) rfl rfl rfl rfl ?_
  refine ax_cmp_ge rfl (fun c1 => False.elim (by revert c1; decide)) (fun c1 => ?_)
  refine ax_s (pc' := 173) (st' := [.ref 285]) rfl rfl rfl rfl ?_
  refine ax_get rfl (hh_285 _ _ _) rfl rfl rfl ?_
  show am_ex (d + 3) 146 176 [some (.ref 285), some (.int 0)] [.ref 287] (am_hh X S L) _
  refine ax_s (pc' := 177) (st' := [.int 0, .ref 287]) rfl rfl rfl rfl ?_
  refine ax_s (pc' := 178) (st' := [.int (-1), .int 0, .ref 287]) rfl rfl rfl rfl ?_
  refine ax_ast (j := 0) rfl (hh_287 _ _ _) rfl rfl (by decide) (by decide) (am_hh_set _ _ _ 287 0 _ rfl) ?_
  refine ax_s (pc' := 182) (ls' := [some (.ref 285), some (.int 1)]) (st' := []) rfl rfl rfl rfl ?_
  refine ax_s (pc' := 166) (st' := []) rfl rfl rfl rfl ?_
  refine ax_s (pc' := 167) (st' := [.int 1]) rfl rfl rfl rfl ?_
  refine ax_s (pc' := 169) (st' := [.int 8, .int 1]) rfl rfl rfl rfl ?_
  refine ax_cmp_ge rfl (fun c2 => False.elim (by revert c2; decide)) (fun c2 => ?_)
  refine ax_s (pc' := 173) (st' := [.ref 285]) rfl rfl rfl rfl ?_
  refine ax_get rfl (hh_285 _ _ _) rfl rfl rfl ?_
  show am_ex (d + 3) 146 176 [some (.ref 285), some (.int 1)] [.ref 287] (am_hh X (am_u S 287 0 (-1)) L) _
  refine ax_s (pc' := 177) (st' := [.int 1, .ref 287]) rfl rfl rfl rfl ?_
  refine ax_s (pc' := 178) (st' := [.int (-1), .int 1, .ref 287]) rfl rfl rfl rfl ?_
  refine ax_ast (j := 1) rfl (hh_287 _ _ _) rfl rfl (by decide) (by decide) (am_hh_set _ _ _ 287 1 _ rfl) ?_
  refine ax_s (pc' := 182) (ls' := [some (.ref 285), some (.int 2)]) (st' := []) rfl rfl rfl rfl ?_
  refine ax_s (pc' := 166) (st' := []) rfl rfl rfl rfl ?_
  refine ax_s (pc' := 167) (st' := [.int 2]) rfl rfl rfl rfl ?_
  refine ax_s (pc' := 169) (st' := [.int 8, .int 2]) rfl rfl rfl rfl ?_
  refine ax_cmp_ge rfl (fun c3 => False.elim (by revert c3; decide)) (fun c3 => ?_)
  refine ax_s (pc' := 173) (st' := [.ref 285]) rfl rfl rfl rfl ?_
  refine ax_get rfl (hh_285 _ _ _) rfl rfl rfl ?_
  show am_ex (d + 3) 146 176 [some (.ref 285), some (.int 2)] [.ref 287] (am_hh X (am_u (am_u S 287 0 (-1)) 287 1 (-1)) L) _
  refine ax_s (pc' := 177) (st' := [.int 2, .ref 287]) rfl rfl rfl rfl ?_
  refine ax_s (pc' := 178) (st' := [.int (-1), .int 2, .ref 287]) rfl rfl rfl rfl ?_
  refine ax_ast (j := 2) rfl (hh_287 _ _ _) rfl rfl (by decide) (by decide) (am_hh_set _ _ _ 287 2 _ rfl) ?_
  refine ax_s (pc' := 182) (ls' := [some (.ref 285), some (.int 3)]) (st' := []) rfl rfl rfl rfl ?_
  refine ax_s (pc' := 166) (st' := []) rfl rfl rfl rfl ?_
  refine ax_s (pc' := 167) (st' := [.int 3]) rfl rfl rfl rfl ?_
  refine ax_s (pc' := 169) (st' := [.int 8, .int 3]) rfl rfl rfl rfl ?_
  refine ax_cmp_ge rfl (fun c4 => False.elim (by revert c4; decide)) (fun c4 => ?_)
  refine ax_s (pc' := 173) (st' := [.ref 285]) rfl rfl rfl rfl ?_
  refine ax_get rfl (hh_285 _ _ _) rfl rfl rfl ?_
  show am_ex (d + 3) 146 176 [some (.ref 285), some (.int 3)] [.ref 287] (am_hh X (am_u (am_u (am_u S 287 0 (-1)) 287 1 (-1)) 287 2 (-1)) L) _
  refine ax_s (pc' := 177) (st' := [.int 3, .ref 287]) rfl rfl rfl rfl ?_
  refine ax_s (pc' := 178) (st' := [.int (-1), .int 3, .ref 287]) rfl rfl rfl rfl ?_
  refine ax_ast (j := 3) rfl (hh_287 _ _ _) rfl rfl (by decide) (by decide) (am_hh_set _ _ _ 287 3 _ rfl) ?_
  refine ax_s (pc' := 182) (ls' := [some (.ref 285), some (.int 4)]) (st' := []) rfl rfl rfl rfl ?_
  refine ax_s (pc' := 166) (st' := []) rfl rfl rfl rfl ?_
  refine ax_s (pc' := 167) (st' := [.int 4]) rfl rfl rfl rfl ?_
  refine ax_s (pc' := 169) (st' := [.int 8, .int 4]) rfl rfl rfl rfl ?_
  refine ax_cmp_ge rfl (fun c5 => False.elim (by revert c5; decide)) (fun c5 => ?_)
  refine ax_s (pc' := 173) (st' := [.ref 285]) rfl rfl rfl rfl ?_
  refine ax_get rfl (hh_285 _ _ _) rfl rfl rfl ?_
  show am_ex (d + 3) 146 176 [some (.ref 285), some (.int 4)] [.ref 287] (am_hh X (am_u (am_u (am_u (am_u S 287 0 (-1)) 287 1 (-1)) 287 2 (-1)) 287 3 (-1)) L) _
  refine ax_s (pc' := 177) (st' := [.int 4, .ref 287]) rfl rfl rfl rfl ?_
  refine ax_s (pc' := 178) (st' := [.int (-1), .int 4, .ref 287]) rfl rfl rfl rfl ?_
  refine ax_ast (j := 4) rfl (hh_287 _ _ _) rfl rfl (by decide) (by decide) (am_hh_set _ _ _ 287 4 _ rfl) ?_
  refine ax_s (pc' := 182) (ls' := [some (.ref 285), some (.int 5)]) (st' := []) rfl rfl rfl rfl ?_
  refine ax_s (pc' := 166) (st' := []) rfl rfl rfl rfl ?_
  refine ax_s (pc' := 167) (st' := [.int 5]) rfl rfl rfl rfl ?_
  refine ax_s (pc' := 169) (st' := [.int 8, .int 5]) rfl rfl rfl rfl ?_
  refine ax_cmp_ge rfl (fun c6 => False.elim (by revert c6; decide)) (fun c6 => ?_)
  refine ax_s (pc' := 173) (st' := [.ref 285]) rfl rfl rfl rfl ?_
  refine ax_get rfl (hh_285 _ _ _) rfl rfl rfl ?_
  show am_ex (d + 3) 146 176 [some (.ref 285), some (.int 5)] [.ref 287] (am_hh X (am_u (am_u (am_u (am_u (am_u S 287 0 (-1)) 287 1 (-1)) 287 2 (-1)) 287 3 (-1)) 287 4 (-1)) L) _
  refine ax_s (pc' := 177) (st' := [.int 5, .ref 287]) rfl rfl rfl rfl ?_
  refine ax_s (pc' := 178) (st' := [.int (-1), .int 5, .ref 287]) rfl rfl rfl rfl ?_
  refine ax_ast (j := 5) rfl (hh_287 _ _ _) rfl rfl (by decide) (by decide) (am_hh_set _ _ _ 287 5 _ rfl) ?_
  refine ax_s (pc' := 182) (ls' := [some (.ref 285), some (.int 6)]) (st' := []) rfl rfl rfl rfl ?_
  refine ax_s (pc' := 166) (st' := []) rfl rfl rfl rfl ?_
  refine ax_s (pc' := 167) (st' := [.int 6]) rfl rfl rfl rfl ?_
  refine ax_s (pc' := 169) (st' := [.int 8, .int 6]) rfl rfl rfl rfl ?_
  refine ax_cmp_ge rfl (fun c7 => False.elim (by revert c7; decide)) (fun c7 => ?_)
  refine ax_s (pc' := 173) (st' := [.ref 285]) rfl rfl rfl rfl ?_
  refine ax_get rfl (hh_285 _ _ _) rfl rfl rfl ?_
  show am_ex (d + 3) 146 176 [some (.ref 285), some (.int 6)] [.ref 287] (am_hh X (am_u (am_u (am_u (am_u (am_u (am_u S 287 0 (-1)) 287 1 (-1)) 287 2 (-1)) 287 3 (-1)) 287 4 (-1)) 287 5 (-1)) L) _
  refine ax_s (pc' := 177) (st' := [.int 6, .ref 287]) rfl rfl rfl rfl ?_
  refine ax_s (pc' := 178) (st' := [.int (-1), .int 6, .ref 287]) rfl rfl rfl rfl ?_
  refine ax_ast (j := 6) rfl (hh_287 _ _ _) rfl rfl (by decide) (by decide) (am_hh_set _ _ _ 287 6 _ rfl) ?_
  refine ax_s (pc' := 182) (ls' := [some (.ref 285), some (.int 7)]) (st' := []) rfl rfl rfl rfl ?_
  refine ax_s (pc' := 166) (st' := []) rfl rfl rfl rfl ?_
  refine ax_s (pc' := 167) (st' := [.int 7]) rfl rfl rfl rfl ?_
  refine ax_s (pc' := 169) (st' := [.int 8, .int 7]) rfl rfl rfl rfl ?_
  refine ax_cmp_ge rfl (fun c8 => False.elim (by revert c8; decide)) (fun c8 => ?_)
  refine ax_s (pc' := 173) (st' := [.ref 285]) rfl rfl rfl rfl ?_
  refine ax_get rfl (hh_285 _ _ _) rfl rfl rfl ?_
  show am_ex (d + 3) 146 176 [some (.ref 285), some (.int 7)] [.ref 287] (am_hh X (am_u (am_u (am_u (am_u (am_u (am_u (am_u S 287 0 (-1)) 287 1 (-1)) 287 2 (-1)) 287 3 (-1)) 287 4 (-1)) 287 5 (-1)) 287 6 (-1)) L) _
  refine ax_s (pc' := 177) (st' := [.int 7, .ref 287]) rfl rfl rfl rfl ?_
  refine ax_s (pc' := 178) (st' := [.int (-1), .int 7, .ref 287]) rfl rfl rfl rfl ?_
  refine ax_ast (j := 7) rfl (hh_287 _ _ _) rfl rfl (by decide) (by decide) (am_hh_set _ _ _ 287 7 _ rfl) ?_
  refine ax_s (pc' := 182) (ls' := [some (.ref 285), some (.int 8)]) (st' := []) rfl rfl rfl rfl ?_
  refine ax_s (pc' := 166) (st' := []) rfl rfl rfl rfl ?_
  refine ax_s (pc' := 167) (st' := [.int 8]) rfl rfl rfl rfl ?_
  refine ax_s (pc' := 169) (st' := [.int 8, .int 8]) rfl rfl rfl rfl ?_
  refine ax_cmp_ge rfl (fun c9 => ?_) (fun c9 => False.elim (by revert c9; decide))
  refine ax_s (pc' := 186) (st' := [.ref 285]) rfl rfl rfl rfl ?_
  refine ax_call (vs := [.ref 285]) (rr := []) rfl rfl rfl ?_
  refine mt_byNumbers (fun S10 j10 f10 => ?_)
  show am_ex (d + 3) 146 189 [some (.ref 285), some (.int 8)] [] (am_hh X S10 L) _
  refine ax_r rfl rfl rfl ?_
  exact k1 S10 j10 f10
theorem ext_nil (X : Nat × (Nat → Int32)) : am_ext (am_h0 X.1 X.2) 5 [] 0 = am_h0 X.1 X.2 := by
  unfold am_ext
  refine Prod.ext (funext fun a => ?_) rfl
  dsimp only
  split
  · rename_i c e
    split at e
    · cases e
    · rw [List.getElem?_nil] at e; cases e
  · rfl
theorem law_st (X : Nat × (Nat → Int32)) {Q : Option Value → am_H → Prop} (hQ : ∀ S L, JJ S → am_ex 40 239 18 [some (.ref 0), some (.ref 5), some (.ref 285), some (.int (nI 0))] [] (am_hh X S L) Q) : am_ex 40 239 0 (am_ent [.ref 0] 4) [] (am_h0 X.1 X.2) Q := by
  show am_ex 40 239 0 [some (.ref 0), none, none, none] [] (am_h0 X.1 X.2) Q
  rw [← ext_nil X]
  refine ax_xnew (n := 13) (b := 5) (c := .inl (10, [.null, .null, .null, .null, .null, .null, .null, .null, .null, .null, .null, .int 0, .int 0])) (L' := [] ++ [.inl (10, [.null, .null, .null, .null, .null, .null, .null, .null, .null, .null, .null, .int 0, .int 0])]) (s' := 13) rfl (by decide) (by decide) rfl rfl rfl rfl rfl ?_
  refine ax_s (pc' := 4) (st' := [.ref 5, .ref 5]) rfl rfl rfl rfl ?_
  refine ax_call (d := 39) (vs := [.ref 5]) (rr := [.ref 5]) rfl rfl rfl (in_wr (d := 36) (s := 13) ?_)
  show am_ex 40 239 7 [some (.ref 0), none, none, none] [.ref 5] (am_ext (am_h0 X.1 X.2) 5 (.inl (10, [.ref 6, .ref 18, .ref 20, .ref 29, .ref 38, .ref 256, .ref 276, .ref 277, .ref 280, .ref 281, .ref 283, .int 0, .int 0]) :: xR11) 2435) Q
  refine ax_s (pc' := 8) (ls' := [some (.ref 0), some (.ref 5), none, none]) (st' := []) rfl rfl rfl rfl ?_
  refine ax_xnew (n := 31) (b := 285) (c := .inl (11, [.null, .null, .null, .int 0, .null, .int 0, .int 0, .int 0, .int 0, .null, .null, .null, .null, .null, .int 0, .null, .null, .null, .null, .null, .int 0, .int 0, .int 0, .int 0, .int 0, .null, .null, .null, .null, .null, .null])) (L' := (.inl (10, [.ref 6, .ref 18, .ref 20, .ref 29, .ref 38, .ref 256, .ref 276, .ref 277, .ref 280, .ref 281, .ref 283, .int 0, .int 0]) :: xR11) ++ [.inl (11, [.null, .null, .null, .int 0, .null, .int 0, .int 0, .int 0, .int 0, .null, .null, .null, .null, .null, .int 0, .null, .null, .null, .null, .null, .int 0, .int 0, .int 0, .int 0, .int 0, .null, .null, .null, .null, .null, .null])]) (s' := 2466) rfl (by decide) (by decide) rfl rfl (by rw [List.length_cons, xl11]) rfl rfl ?_
  refine ax_s (pc' := 12) (st' := [.ref 285, .ref 285]) rfl rfl rfl rfl ?_
  refine ax_call (d := 39) (vs := [.ref 285]) (rr := [.ref 285]) rfl rfl rfl ?_
  rw [← ext_ext (s := 0) (by decide), show 5 + (.inl (10, [.ref 6, .ref 18, .ref 20, .ref 29, .ref 38, .ref 256, .ref 276, .ref 277, .ref 280, .ref 281, .ref 283, .int 0, .int 0]) :: xR11).length = 285 by rw [List.length_cons, xl11]]
  refine in_model (d := 38) ?_
  have e : am_ext (am_ext (am_h0 X.1 X.2) 5 (.inl (10, [.ref 6, .ref 18, .ref 20, .ref 29, .ref 38, .ref 256, .ref 276, .ref 277, .ref 280, .ref 281, .ref 283, .int 0, .int 0]) :: xR11) 0) 285 xM (2466 + 1652) = am_hh X xS xL := by
    have := ext_ext (h := am_h0 X.1 X.2) (L := .inl (10, [.ref 6, .ref 18, .ref 20, .ref 29, .ref 38, .ref 256, .ref 276, .ref 277, .ref 280, .ref 281, .ref 283, .int 0, .int 0]) :: xR11) (M := xM) (s := 0) (s' := 2466 + 1652) (w := 5) (by decide)
    rw [show 5 + (.inl (10, [.ref 6, .ref 18, .ref 20, .ref 29, .ref 38, .ref 256, .ref 276, .ref 277, .ref 280, .ref 281, .ref 283, .int 0, .int 0]) :: xR11).length = 285 by rw [List.length_cons, xl11]] at this
    rw [this]
    exact x_hh X
  rw [e]
  refine wl_minit (d := 36) (fun S1 j1 f1 => ?_)
  show am_ex 40 239 15 [some (.ref 0), some (.ref 5), none, none] [.ref 285] (am_hh X S1 xL) Q
  refine ax_s (pc' := 16) (ls' := [some (.ref 0), some (.ref 5), some (.ref 285), none]) (st' := []) rfl rfl rfl rfl ?_
  refine ax_s (pc' := 17) (st' := [.int 0]) rfl rfl rfl rfl ?_
  refine ax_s (pc' := 18) (ls' := [some (.ref 0), some (.ref 5), some (.ref 285), some (.int 0)]) (st' := []) rfl rfl rfl rfl ?_
  refine hQ S1 xL ?_
  exact jj_0 j1 f1
