def e_riddenIfOff (S : Nat → Nat → Int32) (j : Nat) : Int32 := (if (S 25 j) = 2 then (S 27 j) else 0)
theorem w_riddenIfOff {d : Nat} {X : Nat × (Nat → Int32)} {S : Nat → Nat → Int32} {L : Nat → Int64} {j : Nat} {Q : Option Value → am_H → Prop}  (x1 : j < 6) (hQ : Q (some (.int (e_riddenIfOff S j))) (am_hh X S L)) : am_mt (d + 1) 106 [.ref 20, .int (nI j)] (am_hh X S L) Q := by
  refine ax_in (ls := [some (.ref 20), some (.int (nI j))]) rfl ?_
  refine ax_s (pc' := 1) (st' := [.ref 20]) rfl rfl rfl rfl ?_
  refine ax_get rfl (hh_20 _ _ _) rfl rfl rfl ?_
  show am_ex (d + 1) 106 4 [some (.ref 20), some (.int (nI j))] [.ref 25] (am_hh X S L) _
  refine ax_s (pc' := 5) (st' := [.int (nI j), .ref 25]) rfl rfl rfl rfl ?_
  refine ax_ald (j := j) (v := (S 25 j)) rfl (hh_25 _ _ _) rfl rfl x1 (by decide) rfl ?_
  refine ax_s (pc' := 7) (st' := [.int 2, .int (S 25 j)]) rfl rfl rfl rfl ?_
  refine ax_cmp_ne rfl (fun c1 => ?_) (fun c1 => ?_)
  · refine ax_s (pc' := 20) (st' := [.int 0]) rfl rfl rfl rfl ?_
    refine ax_r rfl rfl rfl ?_
    unfold e_riddenIfOff at hQ
    rw [if_neg c1] at hQ
    exact hQ
  · refine ax_s (pc' := 11) (st' := [.ref 20]) rfl rfl rfl rfl ?_
    refine ax_get rfl (hh_20 _ _ _) rfl rfl rfl ?_
    show am_ex (d + 1) 106 14 [some (.ref 20), some (.int (nI j))] [.ref 27] (am_hh X S L) _
    refine ax_s (pc' := 15) (st' := [.int (nI j), .ref 27]) rfl rfl rfl rfl ?_
    refine ax_ald (j := j) (v := (S 27 j)) rfl (hh_27 _ _ _) rfl rfl x1 (by decide) rfl ?_
    refine ax_s (pc' := 20) (st' := [.int (S 27 j)]) rfl rfl rfl rfl ?_
    refine ax_r rfl rfl rfl ?_
    unfold e_riddenIfOff at hQ
    rw [if_pos c1] at hQ
    exact hQ
