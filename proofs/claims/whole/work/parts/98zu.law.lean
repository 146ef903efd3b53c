theorem law_0 {X : Nat × (Nat → Int32)} {S : Nat → Nat → Int32} {L : Nat → Int64} {i : Nat} {Q : Option Value → am_H → Prop} (hX : X.1 < 2 ^ 31) (hi : i + 5 < X.1) (J : JJ S) (k : ∀ S2 L2, JJ S2 → am_ex 40 239 1298 [some (.ref 0), some (.ref 5), some (.ref 285), some (.int (nI i))] [] (am_hh X S2 L2) Q) : am_ex 40 239 196 [some (.ref 0), some (.ref 5), some (.ref 285), some (.int (nI i))] [] (am_hh X S L) Q := by
  refine ax_s (pc' := 197) (st' := [.ref 5]) rfl rfl rfl rfl ?_
  refine ax_s (pc' := 198) (st' := [.ref 0, .ref 5]) rfl rfl rfl rfl ?_
  refine ax_s (pc' := 199) (st' := [.int (nI i), .ref 0, .ref 5]) rfl rfl rfl rfl ?_
  refine ax_s (pc' := 200) (st' := [.int 1, .int (nI i), .ref 0, .ref 5]) rfl rfl rfl rfl ?_
  refine ax_s (pc' := 201) (st' := [.int ((nI i) + 1), .ref 0, .ref 5]) rfl rfl rfl rfl ?_
  refine ax_ald (j := (i + 1)) (v := (X.2 (i + 1))) rfl (hh_s0 _ _ _) rfl (am_na (x := i) (y := 1) rfl rfl) (show (i + 1) < X.1 by omega) hX rfl ?_
  refine ax_s (pc' := 203) (st' := [.ref 0, .int (X.2 (i + 1)), .ref 5]) rfl rfl rfl rfl ?_
  refine ax_s (pc' := 204) (st' := [.int (nI i), .ref 0, .int (X.2 (i + 1)), .ref 5]) rfl rfl rfl rfl ?_
  refine ax_s (pc' := 205) (st' := [.int 2, .int (nI i), .ref 0, .int (X.2 (i + 1)), .ref 5]) rfl rfl rfl rfl ?_
  refine ax_s (pc' := 206) (st' := [.int ((nI i) + 2), .ref 0, .int (X.2 (i + 1)), .ref 5]) rfl rfl rfl rfl ?_
  refine ax_ald (j := (i + 2)) (v := (X.2 (i + 2))) rfl (hh_s0 _ _ _) rfl (am_na (x := i) (y := 2) rfl rfl) (show (i + 2) < X.1 by omega) hX rfl ?_
  refine ax_s (pc' := 208) (st' := [.ref 0, .int (X.2 (i + 2)), .int (X.2 (i + 1)), .ref 5]) rfl rfl rfl rfl ?_
  refine ax_s (pc' := 209) (st' := [.int (nI i), .ref 0, .int (X.2 (i + 2)), .int (X.2 (i + 1)), .ref 5]) rfl rfl rfl rfl ?_
  refine ax_s (pc' := 210) (st' := [.int 3, .int (nI i), .ref 0, .int (X.2 (i + 2)), .int (X.2 (i + 1)), .ref 5]) rfl rfl rfl rfl ?_
  refine ax_s (pc' := 211) (st' := [.int ((nI i) + 3), .ref 0, .int (X.2 (i + 2)), .int (X.2 (i + 1)), .ref 5]) rfl rfl rfl rfl ?_
  refine ax_ald (j := (i + 3)) (v := (X.2 (i + 3))) rfl (hh_s0 _ _ _) rfl (am_na (x := i) (y := 3) rfl rfl) (show (i + 3) < X.1 by omega) hX rfl ?_
  refine ax_call (vs := [.ref 5, .int (X.2 (i + 1)), .int (X.2 (i + 2)), .int (X.2 (i + 3))]) (rr := []) rfl rfl rfl ?_
  refine bo_k (bo_row J (X.2 (i + 1)) (X.2 (i + 2)) (X.2 (i + 3))) rfl (fun x1 S1 L1 hm1 => ?_)
  show am_ex 40 239 215 [some (.ref 0), some (.ref 5), some (.ref 285), some (.int (nI i))] [.int x1] (am_hh X S1 L1) _
  refine ax_s (pc' := 216) (st' := [.ref 285, .int x1]) rfl rfl rfl rfl ?_
  refine ax_s (pc' := 217) (st' := [.ref 0, .ref 285, .int x1]) rfl rfl rfl rfl ?_
  refine ax_s (pc' := 218) (st' := [.int (nI i), .ref 0, .ref 285, .int x1]) rfl rfl rfl rfl ?_
  refine ax_s (pc' := 219) (st' := [.int 1, .int (nI i), .ref 0, .ref 285, .int x1]) rfl rfl rfl rfl ?_
  refine ax_s (pc' := 220) (st' := [.int ((nI i) + 1), .ref 0, .ref 285, .int x1]) rfl rfl rfl rfl ?_
  refine ax_ald (j := (i + 1)) (v := (X.2 (i + 1))) rfl (hh_s0 _ _ _) rfl (am_na (x := i) (y := 1) rfl rfl) (show (i + 1) < X.1 by omega) hX rfl ?_
  refine ax_s (pc' := 222) (st' := [.ref 0, .int (X.2 (i + 1)), .ref 285, .int x1]) rfl rfl rfl rfl ?_
  refine ax_s (pc' := 223) (st' := [.int (nI i), .ref 0, .int (X.2 (i + 1)), .ref 285, .int x1]) rfl rfl rfl rfl ?_
  refine ax_s (pc' := 224) (st' := [.int 2, .int (nI i), .ref 0, .int (X.2 (i + 1)), .ref 285, .int x1]) rfl rfl rfl rfl ?_
  refine ax_s (pc' := 225) (st' := [.int ((nI i) + 2), .ref 0, .int (X.2 (i + 1)), .ref 285, .int x1]) rfl rfl rfl rfl ?_
  refine ax_ald (j := (i + 2)) (v := (X.2 (i + 2))) rfl (hh_s0 _ _ _) rfl (am_na (x := i) (y := 2) rfl rfl) (show (i + 2) < X.1 by omega) hX rfl ?_
  refine ax_s (pc' := 227) (st' := [.ref 0, .int (X.2 (i + 2)), .int (X.2 (i + 1)), .ref 285, .int x1]) rfl rfl rfl rfl ?_
  refine ax_s (pc' := 228) (st' := [.int (nI i), .ref 0, .int (X.2 (i + 2)), .int (X.2 (i + 1)), .ref 285, .int x1]) rfl rfl rfl rfl ?_
  refine ax_s (pc' := 229) (st' := [.int 3, .int (nI i), .ref 0, .int (X.2 (i + 2)), .int (X.2 (i + 1)), .ref 285, .int x1]) rfl rfl rfl rfl ?_
  refine ax_s (pc' := 230) (st' := [.int ((nI i) + 3), .ref 0, .int (X.2 (i + 2)), .int (X.2 (i + 1)), .ref 285, .int x1]) rfl rfl rfl rfl ?_
  refine ax_ald (j := (i + 3)) (v := (X.2 (i + 3))) rfl (hh_s0 _ _ _) rfl (am_na (x := i) (y := 3) rfl rfl) (show (i + 3) < X.1 by omega) hX rfl ?_
  refine ax_call (vs := [.ref 285, .int (X.2 (i + 1)), .int (X.2 (i + 2)), .int (X.2 (i + 3))]) (rr := [.int x1]) rfl rfl rfl ?_
  refine bo_m hm1 (fun S2 L2 J2 => ?_)
  show am_ex 40 239 234 [some (.ref 0), some (.ref 5), some (.ref 285), some (.int (nI i))] [.int x1, .int x1] (am_hh X S2 L2) _
  refine ax_cmp_eq rfl (fun c1 => ?_) (fun c1 => False.elim (by first | exact c1 (rfl) | exact (rfl) c1))
  exact k S2 L2 J2
theorem law_1 {X : Nat × (Nat → Int32)} {S : Nat → Nat → Int32} {L : Nat → Int64} {i : Nat} {Q : Option Value → am_H → Prop} (hX : X.1 < 2 ^ 31) (hi : i + 5 < X.1) (J : JJ S) (k : ∀ S2 L2, JJ S2 → am_ex 40 239 1298 [some (.ref 0), some (.ref 5), some (.ref 285), some (.int (nI i))] [] (am_hh X S2 L2) Q) : am_ex 40 239 239 [some (.ref 0), some (.ref 5), some (.ref 285), some (.int (nI i))] [] (am_hh X S L) Q := by
  refine ax_s (pc' := 240) (st' := [.ref 5]) rfl rfl rfl rfl ?_
  refine ax_s (pc' := 241) (st' := [.ref 0, .ref 5]) rfl rfl rfl rfl ?_
  refine ax_s (pc' := 242) (st' := [.int (nI i), .ref 0, .ref 5]) rfl rfl rfl rfl ?_
  refine ax_s (pc' := 243) (st' := [.int 1, .int (nI i), .ref 0, .ref 5]) rfl rfl rfl rfl ?_
  refine ax_s (pc' := 244) (st' := [.int ((nI i) + 1), .ref 0, .ref 5]) rfl rfl rfl rfl ?_
  refine ax_ald (j := (i + 1)) (v := (X.2 (i + 1))) rfl (hh_s0 _ _ _) rfl (am_na (x := i) (y := 1) rfl rfl) (show (i + 1) < X.1 by omega) hX rfl ?_
  refine ax_s (pc' := 246) (st' := [.ref 0, .int (X.2 (i + 1)), .ref 5]) rfl rfl rfl rfl ?_
  refine ax_s (pc' := 247) (st' := [.int (nI i), .ref 0, .int (X.2 (i + 1)), .ref 5]) rfl rfl rfl rfl ?_
  refine ax_s (pc' := 248) (st' := [.int 2, .int (nI i), .ref 0, .int (X.2 (i + 1)), .ref 5]) rfl rfl rfl rfl ?_
  refine ax_s (pc' := 249) (st' := [.int ((nI i) + 2), .ref 0, .int (X.2 (i + 1)), .ref 5]) rfl rfl rfl rfl ?_
  refine ax_ald (j := (i + 2)) (v := (X.2 (i + 2))) rfl (hh_s0 _ _ _) rfl (am_na (x := i) (y := 2) rfl rfl) (show (i + 2) < X.1 by omega) hX rfl ?_
  refine ax_s (pc' := 251) (st' := [.ref 0, .int (X.2 (i + 2)), .int (X.2 (i + 1)), .ref 5]) rfl rfl rfl rfl ?_
  refine ax_s (pc' := 252) (st' := [.int (nI i), .ref 0, .int (X.2 (i + 2)), .int (X.2 (i + 1)), .ref 5]) rfl rfl rfl rfl ?_
  refine ax_s (pc' := 253) (st' := [.int 3, .int (nI i), .ref 0, .int (X.2 (i + 2)), .int (X.2 (i + 1)), .ref 5]) rfl rfl rfl rfl ?_
  refine ax_s (pc' := 254) (st' := [.int ((nI i) + 3), .ref 0, .int (X.2 (i + 2)), .int (X.2 (i + 1)), .ref 5]) rfl rfl rfl rfl ?_
  refine ax_ald (j := (i + 3)) (v := (X.2 (i + 3))) rfl (hh_s0 _ _ _) rfl (am_na (x := i) (y := 3) rfl rfl) (show (i + 3) < X.1 by omega) hX rfl ?_
  refine ax_call (vs := [.ref 5, .int (X.2 (i + 1)), .int (X.2 (i + 2)), .int (X.2 (i + 3))]) (rr := []) rfl rfl rfl ?_
  refine bo_k (bo_set J (X.2 (i + 1)) (X.2 (i + 2)) (X.2 (i + 3))) rfl (fun x1 S1 L1 hm1 => ?_)
  show am_ex 40 239 258 [some (.ref 0), some (.ref 5), some (.ref 285), some (.int (nI i))] [.int x1] (am_hh X S1 L1) _
  refine ax_s (pc' := 259) (st' := [.ref 285, .int x1]) rfl rfl rfl rfl ?_
  refine ax_s (pc' := 260) (st' := [.ref 0, .ref 285, .int x1]) rfl rfl rfl rfl ?_
  refine ax_s (pc' := 261) (st' := [.int (nI i), .ref 0, .ref 285, .int x1]) rfl rfl rfl rfl ?_
  refine ax_s (pc' := 262) (st' := [.int 1, .int (nI i), .ref 0, .ref 285, .int x1]) rfl rfl rfl rfl ?_
  refine ax_s (pc' := 263) (st' := [.int ((nI i) + 1), .ref 0, .ref 285, .int x1]) rfl rfl rfl rfl ?_
  refine ax_ald (j := (i + 1)) (v := (X.2 (i + 1))) rfl (hh_s0 _ _ _) rfl (am_na (x := i) (y := 1) rfl rfl) (show (i + 1) < X.1 by omega) hX rfl ?_
  refine ax_s (pc' := 265) (st' := [.ref 0, .int (X.2 (i + 1)), .ref 285, .int x1]) rfl rfl rfl rfl ?_
  refine ax_s (pc' := 266) (st' := [.int (nI i), .ref 0, .int (X.2 (i + 1)), .ref 285, .int x1]) rfl rfl rfl rfl ?_
  refine ax_s (pc' := 267) (st' := [.int 2, .int (nI i), .ref 0, .int (X.2 (i + 1)), .ref 285, .int x1]) rfl rfl rfl rfl ?_
  refine ax_s (pc' := 268) (st' := [.int ((nI i) + 2), .ref 0, .int (X.2 (i + 1)), .ref 285, .int x1]) rfl rfl rfl rfl ?_
  refine ax_ald (j := (i + 2)) (v := (X.2 (i + 2))) rfl (hh_s0 _ _ _) rfl (am_na (x := i) (y := 2) rfl rfl) (show (i + 2) < X.1 by omega) hX rfl ?_
  refine ax_s (pc' := 270) (st' := [.ref 0, .int (X.2 (i + 2)), .int (X.2 (i + 1)), .ref 285, .int x1]) rfl rfl rfl rfl ?_
  refine ax_s (pc' := 271) (st' := [.int (nI i), .ref 0, .int (X.2 (i + 2)), .int (X.2 (i + 1)), .ref 285, .int x1]) rfl rfl rfl rfl ?_
  refine ax_s (pc' := 272) (st' := [.int 3, .int (nI i), .ref 0, .int (X.2 (i + 2)), .int (X.2 (i + 1)), .ref 285, .int x1]) rfl rfl rfl rfl ?_
  refine ax_s (pc' := 273) (st' := [.int ((nI i) + 3), .ref 0, .int (X.2 (i + 2)), .int (X.2 (i + 1)), .ref 285, .int x1]) rfl rfl rfl rfl ?_
  refine ax_ald (j := (i + 3)) (v := (X.2 (i + 3))) rfl (hh_s0 _ _ _) rfl (am_na (x := i) (y := 3) rfl rfl) (show (i + 3) < X.1 by omega) hX rfl ?_
  refine ax_call (vs := [.ref 285, .int (X.2 (i + 1)), .int (X.2 (i + 2)), .int (X.2 (i + 3))]) (rr := [.int x1]) rfl rfl rfl ?_
  refine bo_m hm1 (fun S2 L2 J2 => ?_)
  show am_ex 40 239 277 [some (.ref 0), some (.ref 5), some (.ref 285), some (.int (nI i))] [.int x1, .int x1] (am_hh X S2 L2) _
  refine ax_cmp_eq rfl (fun c1 => ?_) (fun c1 => False.elim (by first | exact c1 (rfl) | exact (rfl) c1))
  exact k S2 L2 J2
theorem law_2 {X : Nat × (Nat → Int32)} {S : Nat → Nat → Int32} {L : Nat → Int64} {i : Nat} {Q : Option Value → am_H → Prop} (hX : X.1 < 2 ^ 31) (hi : i + 5 < X.1) (J : JJ S) (k : ∀ S2 L2, JJ S2 → am_ex 40 239 1298 [some (.ref 0), some (.ref 5), some (.ref 285), some (.int (nI i))] [] (am_hh X S2 L2) Q) : am_ex 40 239 282 [some (.ref 0), some (.ref 5), some (.ref 285), some (.int (nI i))] [] (am_hh X S L) Q := by
  refine ax_s (pc' := 283) (st' := [.ref 5]) rfl rfl rfl rfl ?_
  refine ax_s (pc' := 284) (st' := [.ref 0, .ref 5]) rfl rfl rfl rfl ?_
  refine ax_s (pc' := 285) (st' := [.int (nI i), .ref 0, .ref 5]) rfl rfl rfl rfl ?_
  refine ax_s (pc' := 286) (st' := [.int 1, .int (nI i), .ref 0, .ref 5]) rfl rfl rfl rfl ?_
  refine ax_s (pc' := 287) (st' := [.int ((nI i) + 1), .ref 0, .ref 5]) rfl rfl rfl rfl ?_
  refine ax_ald (j := (i + 1)) (v := (X.2 (i + 1))) rfl (hh_s0 _ _ _) rfl (am_na (x := i) (y := 1) rfl rfl) (show (i + 1) < X.1 by omega) hX rfl ?_
  refine ax_s (pc' := 289) (st' := [.ref 0, .int (X.2 (i + 1)), .ref 5]) rfl rfl rfl rfl ?_
  refine ax_s (pc' := 290) (st' := [.int (nI i), .ref 0, .int (X.2 (i + 1)), .ref 5]) rfl rfl rfl rfl ?_
  refine ax_s (pc' := 291) (st' := [.int 2, .int (nI i), .ref 0, .int (X.2 (i + 1)), .ref 5]) rfl rfl rfl rfl ?_
  refine ax_s (pc' := 292) (st' := [.int ((nI i) + 2), .ref 0, .int (X.2 (i + 1)), .ref 5]) rfl rfl rfl rfl ?_
  refine ax_ald (j := (i + 2)) (v := (X.2 (i + 2))) rfl (hh_s0 _ _ _) rfl (am_na (x := i) (y := 2) rfl rfl) (show (i + 2) < X.1 by omega) hX rfl ?_
  refine ax_s (pc' := 294) (st' := [.ref 0, .int (X.2 (i + 2)), .int (X.2 (i + 1)), .ref 5]) rfl rfl rfl rfl ?_
  refine ax_s (pc' := 295) (st' := [.int (nI i), .ref 0, .int (X.2 (i + 2)), .int (X.2 (i + 1)), .ref 5]) rfl rfl rfl rfl ?_
  refine ax_s (pc' := 296) (st' := [.int 3, .int (nI i), .ref 0, .int (X.2 (i + 2)), .int (X.2 (i + 1)), .ref 5]) rfl rfl rfl rfl ?_
  refine ax_s (pc' := 297) (st' := [.int ((nI i) + 3), .ref 0, .int (X.2 (i + 2)), .int (X.2 (i + 1)), .ref 5]) rfl rfl rfl rfl ?_
  refine ax_ald (j := (i + 3)) (v := (X.2 (i + 3))) rfl (hh_s0 _ _ _) rfl (am_na (x := i) (y := 3) rfl rfl) (show (i + 3) < X.1 by omega) hX rfl ?_
  refine ax_s (pc' := 299) (st' := [.ref 0, .int (X.2 (i + 3)), .int (X.2 (i + 2)), .int (X.2 (i + 1)), .ref 5]) rfl rfl rfl rfl ?_
  refine ax_s (pc' := 300) (st' := [.int (nI i), .ref 0, .int (X.2 (i + 3)), .int (X.2 (i + 2)), .int (X.2 (i + 1)), .ref 5]) rfl rfl rfl rfl ?_
  refine ax_s (pc' := 301) (st' := [.int 4, .int (nI i), .ref 0, .int (X.2 (i + 3)), .int (X.2 (i + 2)), .int (X.2 (i + 1)), .ref 5]) rfl rfl rfl rfl ?_
  refine ax_s (pc' := 302) (st' := [.int ((nI i) + 4), .ref 0, .int (X.2 (i + 3)), .int (X.2 (i + 2)), .int (X.2 (i + 1)), .ref 5]) rfl rfl rfl rfl ?_
  refine ax_ald (j := (i + 4)) (v := (X.2 (i + 4))) rfl (hh_s0 _ _ _) rfl (am_na (x := i) (y := 4) rfl rfl) (show (i + 4) < X.1 by omega) hX rfl ?_
  refine ax_s (pc' := 304) (st' := [.ref 0, .int (X.2 (i + 4)), .int (X.2 (i + 3)), .int (X.2 (i + 2)), .int (X.2 (i + 1)), .ref 5]) rfl rfl rfl rfl ?_
  refine ax_s (pc' := 305) (st' := [.int (nI i), .ref 0, .int (X.2 (i + 4)), .int (X.2 (i + 3)), .int (X.2 (i + 2)), .int (X.2 (i + 1)), .ref 5]) rfl rfl rfl rfl ?_
  refine ax_s (pc' := 306) (st' := [.int 5, .int (nI i), .ref 0, .int (X.2 (i + 4)), .int (X.2 (i + 3)), .int (X.2 (i + 2)), .int (X.2 (i + 1)), .ref 5]) rfl rfl rfl rfl ?_
  refine ax_s (pc' := 307) (st' := [.int ((nI i) + 5), .ref 0, .int (X.2 (i + 4)), .int (X.2 (i + 3)), .int (X.2 (i + 2)), .int (X.2 (i + 1)), .ref 5]) rfl rfl rfl rfl ?_
  refine ax_ald (j := (i + 5)) (v := (X.2 (i + 5))) rfl (hh_s0 _ _ _) rfl (am_na (x := i) (y := 5) rfl rfl) (show (i + 5) < X.1 by omega) hX rfl ?_
  refine ax_call (vs := [.ref 5, .int (X.2 (i + 1)), .int (X.2 (i + 2)), .int (X.2 (i + 3)), .int (X.2 (i + 4)), .int (X.2 (i + 5))]) (rr := []) rfl rfl rfl ?_
  refine bo_k (bo_copy J (X.2 (i + 1)) (X.2 (i + 2)) (X.2 (i + 3)) (X.2 (i + 4)) (X.2 (i + 5))) rfl (fun x1 S1 L1 hm1 => ?_)
  show am_ex 40 239 311 [some (.ref 0), some (.ref 5), some (.ref 285), some (.int (nI i))] [.int x1] (am_hh X S1 L1) _
  refine ax_s (pc' := 312) (st' := [.ref 285, .int x1]) rfl rfl rfl rfl ?_
  refine ax_s (pc' := 313) (st' := [.ref 0, .ref 285, .int x1]) rfl rfl rfl rfl ?_
  refine ax_s (pc' := 314) (st' := [.int (nI i), .ref 0, .ref 285, .int x1]) rfl rfl rfl rfl ?_
  refine ax_s (pc' := 315) (st' := [.int 1, .int (nI i), .ref 0, .ref 285, .int x1]) rfl rfl rfl rfl ?_
  refine ax_s (pc' := 316) (st' := [.int ((nI i) + 1), .ref 0, .ref 285, .int x1]) rfl rfl rfl rfl ?_
  refine ax_ald (j := (i + 1)) (v := (X.2 (i + 1))) rfl (hh_s0 _ _ _) rfl (am_na (x := i) (y := 1) rfl rfl) (show (i + 1) < X.1 by omega) hX rfl ?_
  refine ax_s (pc' := 318) (st' := [.ref 0, .int (X.2 (i + 1)), .ref 285, .int x1]) rfl rfl rfl rfl ?_
  refine ax_s (pc' := 319) (st' := [.int (nI i), .ref 0, .int (X.2 (i + 1)), .ref 285, .int x1]) rfl rfl rfl rfl ?_
  refine ax_s (pc' := 320) (st' := [.int 2, .int (nI i), .ref 0, .int (X.2 (i + 1)), .ref 285, .int x1]) rfl rfl rfl rfl ?_
  refine ax_s (pc' := 321) (st' := [.int ((nI i) + 2), .ref 0, .int (X.2 (i + 1)), .ref 285, .int x1]) rfl rfl rfl rfl ?_
  refine ax_ald (j := (i + 2)) (v := (X.2 (i + 2))) rfl (hh_s0 _ _ _) rfl (am_na (x := i) (y := 2) rfl rfl) (show (i + 2) < X.1 by omega) hX rfl ?_
  refine ax_s (pc' := 323) (st' := [.ref 0, .int (X.2 (i + 2)), .int (X.2 (i + 1)), .ref 285, .int x1]) rfl rfl rfl rfl ?_
  refine ax_s (pc' := 324) (st' := [.int (nI i), .ref 0, .int (X.2 (i + 2)), .int (X.2 (i + 1)), .ref 285, .int x1]) rfl rfl rfl rfl ?_
  refine ax_s (pc' := 325) (st' := [.int 3, .int (nI i), .ref 0, .int (X.2 (i + 2)), .int (X.2 (i + 1)), .ref 285, .int x1]) rfl rfl rfl rfl ?_
  refine ax_s (pc' := 326) (st' := [.int ((nI i) + 3), .ref 0, .int (X.2 (i + 2)), .int (X.2 (i + 1)), .ref 285, .int x1]) rfl rfl rfl rfl ?_
  refine ax_ald (j := (i + 3)) (v := (X.2 (i + 3))) rfl (hh_s0 _ _ _) rfl (am_na (x := i) (y := 3) rfl rfl) (show (i + 3) < X.1 by omega) hX rfl ?_
  refine ax_s (pc' := 328) (st' := [.ref 0, .int (X.2 (i + 3)), .int (X.2 (i + 2)), .int (X.2 (i + 1)), .ref 285, .int x1]) rfl rfl rfl rfl ?_
  refine ax_s (pc' := 329) (st' := [.int (nI i), .ref 0, .int (X.2 (i + 3)), .int (X.2 (i + 2)), .int (X.2 (i + 1)), .ref 285, .int x1]) rfl rfl rfl rfl ?_
  refine ax_s (pc' := 330) (st' := [.int 4, .int (nI i), .ref 0, .int (X.2 (i + 3)), .int (X.2 (i + 2)), .int (X.2 (i + 1)), .ref 285, .int x1]) rfl rfl rfl rfl ?_
  refine ax_s (pc' := 331) (st' := [.int ((nI i) + 4), .ref 0, .int (X.2 (i + 3)), .int (X.2 (i + 2)), .int (X.2 (i + 1)), .ref 285, .int x1]) rfl rfl rfl rfl ?_
  refine ax_ald (j := (i + 4)) (v := (X.2 (i + 4))) rfl (hh_s0 _ _ _) rfl (am_na (x := i) (y := 4) rfl rfl) (show (i + 4) < X.1 by omega) hX rfl ?_
  refine ax_s (pc' := 333) (st' := [.ref 0, .int (X.2 (i + 4)), .int (X.2 (i + 3)), .int (X.2 (i + 2)), .int (X.2 (i + 1)), .ref 285, .int x1]) rfl rfl rfl rfl ?_
  refine ax_s (pc' := 334) (st' := [.int (nI i), .ref 0, .int (X.2 (i + 4)), .int (X.2 (i + 3)), .int (X.2 (i + 2)), .int (X.2 (i + 1)), .ref 285, .int x1]) rfl rfl rfl rfl ?_
  refine ax_s (pc' := 335) (st' := [.int 5, .int (nI i), .ref 0, .int (X.2 (i + 4)), .int (X.2 (i + 3)), .int (X.2 (i + 2)), .int (X.2 (i + 1)), .ref 285, .int x1]) rfl rfl rfl rfl ?_
  refine ax_s (pc' := 336) (st' := [.int ((nI i) + 5), .ref 0, .int (X.2 (i + 4)), .int (X.2 (i + 3)), .int (X.2 (i + 2)), .int (X.2 (i + 1)), .ref 285, .int x1]) rfl rfl rfl rfl ?_
  refine ax_ald (j := (i + 5)) (v := (X.2 (i + 5))) rfl (hh_s0 _ _ _) rfl (am_na (x := i) (y := 5) rfl rfl) (show (i + 5) < X.1 by omega) hX rfl ?_
  refine ax_call (vs := [.ref 285, .int (X.2 (i + 1)), .int (X.2 (i + 2)), .int (X.2 (i + 3)), .int (X.2 (i + 4)), .int (X.2 (i + 5))]) (rr := [.int x1]) rfl rfl rfl ?_
  refine bo_m hm1 (fun S2 L2 J2 => ?_)
  show am_ex 40 239 340 [some (.ref 0), some (.ref 5), some (.ref 285), some (.int (nI i))] [.int x1, .int x1] (am_hh X S2 L2) _
  refine ax_cmp_eq rfl (fun c1 => ?_) (fun c1 => False.elim (by first | exact c1 (rfl) | exact (rfl) c1))
  exact k S2 L2 J2
theorem law_3 {X : Nat × (Nat → Int32)} {S : Nat → Nat → Int32} {L : Nat → Int64} {i : Nat} {Q : Option Value → am_H → Prop} (hX : X.1 < 2 ^ 31) (hi : i + 5 < X.1) (J : JJ S) (k : ∀ S2 L2, JJ S2 → am_ex 40 239 1298 [some (.ref 0), some (.ref 5), some (.ref 285), some (.int (nI i))] [] (am_hh X S2 L2) Q) : am_ex 40 239 345 [some (.ref 0), some (.ref 5), some (.ref 285), some (.int (nI i))] [] (am_hh X S L) Q := by
  refine ax_s (pc' := 346) (st' := [.ref 5]) rfl rfl rfl rfl ?_
  refine ax_s (pc' := 347) (st' := [.ref 0, .ref 5]) rfl rfl rfl rfl ?_
  refine ax_s (pc' := 348) (st' := [.int (nI i), .ref 0, .ref 5]) rfl rfl rfl rfl ?_
  refine ax_s (pc' := 349) (st' := [.int 1, .int (nI i), .ref 0, .ref 5]) rfl rfl rfl rfl ?_
  refine ax_s (pc' := 350) (st' := [.int ((nI i) + 1), .ref 0, .ref 5]) rfl rfl rfl rfl ?_
  refine ax_ald (j := (i + 1)) (v := (X.2 (i + 1))) rfl (hh_s0 _ _ _) rfl (am_na (x := i) (y := 1) rfl rfl) (show (i + 1) < X.1 by omega) hX rfl ?_
  refine ax_call (vs := [.ref 5, .int (X.2 (i + 1))]) (rr := []) rfl rfl rfl ?_
  refine bo_k (bo_drop J (X.2 (i + 1))) rfl (fun x1 S1 L1 hm1 => ?_)
  show am_ex 40 239 354 [some (.ref 0), some (.ref 5), some (.ref 285), some (.int (nI i))] [.int x1] (am_hh X S1 L1) _
  refine ax_s (pc' := 355) (st' := [.ref 285, .int x1]) rfl rfl rfl rfl ?_
  refine ax_s (pc' := 356) (st' := [.ref 0, .ref 285, .int x1]) rfl rfl rfl rfl ?_
  refine ax_s (pc' := 357) (st' := [.int (nI i), .ref 0, .ref 285, .int x1]) rfl rfl rfl rfl ?_
  refine ax_s (pc' := 358) (st' := [.int 1, .int (nI i), .ref 0, .ref 285, .int x1]) rfl rfl rfl rfl ?_
  refine ax_s (pc' := 359) (st' := [.int ((nI i) + 1), .ref 0, .ref 285, .int x1]) rfl rfl rfl rfl ?_
  refine ax_ald (j := (i + 1)) (v := (X.2 (i + 1))) rfl (hh_s0 _ _ _) rfl (am_na (x := i) (y := 1) rfl rfl) (show (i + 1) < X.1 by omega) hX rfl ?_
  refine ax_call (vs := [.ref 285, .int (X.2 (i + 1))]) (rr := [.int x1]) rfl rfl rfl ?_
  refine bo_m hm1 (fun S2 L2 J2 => ?_)
  show am_ex 40 239 363 [some (.ref 0), some (.ref 5), some (.ref 285), some (.int (nI i))] [.int x1, .int x1] (am_hh X S2 L2) _
  refine ax_cmp_eq rfl (fun c1 => ?_) (fun c1 => False.elim (by first | exact c1 (rfl) | exact (rfl) c1))
  exact k S2 L2 J2
theorem law_4 {X : Nat × (Nat → Int32)} {S : Nat → Nat → Int32} {L : Nat → Int64} {i : Nat} {Q : Option Value → am_H → Prop} (hX : X.1 < 2 ^ 31) (hi : i + 5 < X.1) (J : JJ S) (k : ∀ S2 L2, JJ S2 → am_ex 40 239 1298 [some (.ref 0), some (.ref 5), some (.ref 285), some (.int (nI i))] [] (am_hh X S2 L2) Q) : am_ex 40 239 368 [some (.ref 0), some (.ref 5), some (.ref 285), some (.int (nI i))] [] (am_hh X S L) Q := by
  refine ax_s (pc' := 369) (st' := [.ref 5]) rfl rfl rfl rfl ?_
  refine ax_s (pc' := 370) (st' := [.ref 0, .ref 5]) rfl rfl rfl rfl ?_
  refine ax_s (pc' := 371) (st' := [.int (nI i), .ref 0, .ref 5]) rfl rfl rfl rfl ?_
  refine ax_s (pc' := 372) (st' := [.int 1, .int (nI i), .ref 0, .ref 5]) rfl rfl rfl rfl ?_
  refine ax_s (pc' := 373) (st' := [.int ((nI i) + 1), .ref 0, .ref 5]) rfl rfl rfl rfl ?_
  refine ax_ald (j := (i + 1)) (v := (X.2 (i + 1))) rfl (hh_s0 _ _ _) rfl (am_na (x := i) (y := 1) rfl rfl) (show (i + 1) < X.1 by omega) hX rfl ?_
  refine ax_call (vs := [.ref 5, .int (X.2 (i + 1))]) (rr := []) rfl rfl rfl ?_
  refine bo_k (bo_feed J (X.2 (i + 1))) rfl (fun x1 S1 L1 hm1 => ?_)
  show am_ex 40 239 377 [some (.ref 0), some (.ref 5), some (.ref 285), some (.int (nI i))] [.int x1] (am_hh X S1 L1) _
  refine ax_s (pc' := 378) (st' := [.ref 285, .int x1]) rfl rfl rfl rfl ?_
  refine ax_s (pc' := 379) (st' := [.ref 0, .ref 285, .int x1]) rfl rfl rfl rfl ?_
  refine ax_s (pc' := 380) (st' := [.int (nI i), .ref 0, .ref 285, .int x1]) rfl rfl rfl rfl ?_
  refine ax_s (pc' := 381) (st' := [.int 1, .int (nI i), .ref 0, .ref 285, .int x1]) rfl rfl rfl rfl ?_
  refine ax_s (pc' := 382) (st' := [.int ((nI i) + 1), .ref 0, .ref 285, .int x1]) rfl rfl rfl rfl ?_
  refine ax_ald (j := (i + 1)) (v := (X.2 (i + 1))) rfl (hh_s0 _ _ _) rfl (am_na (x := i) (y := 1) rfl rfl) (show (i + 1) < X.1 by omega) hX rfl ?_
  refine ax_call (vs := [.ref 285, .int (X.2 (i + 1))]) (rr := [.int x1]) rfl rfl rfl ?_
  refine bo_m hm1 (fun S2 L2 J2 => ?_)
  show am_ex 40 239 386 [some (.ref 0), some (.ref 5), some (.ref 285), some (.int (nI i))] [.int x1, .int x1] (am_hh X S2 L2) _
  refine ax_cmp_eq rfl (fun c1 => ?_) (fun c1 => False.elim (by first | exact c1 (rfl) | exact (rfl) c1))
  exact k S2 L2 J2
theorem law_5 {X : Nat × (Nat → Int32)} {S : Nat → Nat → Int32} {L : Nat → Int64} {i : Nat} {Q : Option Value → am_H → Prop} (hX : X.1 < 2 ^ 31) (hi : i + 5 < X.1) (J : JJ S) (k : ∀ S2 L2, JJ S2 → am_ex 40 239 1298 [some (.ref 0), some (.ref 5), some (.ref 285), some (.int (nI i))] [] (am_hh X S2 L2) Q) : am_ex 40 239 391 [some (.ref 0), some (.ref 5), some (.ref 285), some (.int (nI i))] [] (am_hh X S L) Q := by
  refine ax_s (pc' := 392) (st' := [.ref 5]) rfl rfl rfl rfl ?_
  refine ax_call (vs := [.ref 5]) (rr := []) rfl rfl rfl ?_
  refine bo_k (bo_wheel J ) rfl (fun x1 S1 L1 hm1 => ?_)
  show am_ex 40 239 395 [some (.ref 0), some (.ref 5), some (.ref 285), some (.int (nI i))] [.int x1] (am_hh X S1 L1) _
  refine ax_s (pc' := 396) (st' := [.ref 285, .int x1]) rfl rfl rfl rfl ?_
  refine ax_call (vs := [.ref 285]) (rr := [.int x1]) rfl rfl rfl ?_
  refine bo_m hm1 (fun S2 L2 J2 => ?_)
  show am_ex 40 239 399 [some (.ref 0), some (.ref 5), some (.ref 285), some (.int (nI i))] [.int x1, .int x1] (am_hh X S2 L2) _
  refine ax_cmp_eq rfl (fun c1 => ?_) (fun c1 => False.elim (by first | exact c1 (rfl) | exact (rfl) c1))
  exact k S2 L2 J2
theorem law_6 {X : Nat × (Nat → Int32)} {S : Nat → Nat → Int32} {L : Nat → Int64} {i : Nat} {Q : Option Value → am_H → Prop} (hX : X.1 < 2 ^ 31) (hi : i + 5 < X.1) (J : JJ S) (k : ∀ S2 L2, JJ S2 → am_ex 40 239 1298 [some (.ref 0), some (.ref 5), some (.ref 285), some (.int (nI i))] [] (am_hh X S2 L2) Q) : am_ex 40 239 404 [some (.ref 0), some (.ref 5), some (.ref 285), some (.int (nI i))] [] (am_hh X S L) Q := by
  refine ax_s (pc' := 405) (st' := [.ref 5]) rfl rfl rfl rfl ?_
  refine ax_call (vs := [.ref 5]) (rr := []) rfl rfl rfl ?_
  refine bo_k (bo_fault J ) rfl (fun x1 S1 L1 hm1 => ?_)
  show am_ex 40 239 408 [some (.ref 0), some (.ref 5), some (.ref 285), some (.int (nI i))] [.int x1] (am_hh X S1 L1) _
  refine ax_s (pc' := 409) (st' := [.ref 285, .int x1]) rfl rfl rfl rfl ?_
  refine ax_call (vs := [.ref 285]) (rr := [.int x1]) rfl rfl rfl ?_
  refine bo_m hm1 (fun S2 L2 J2 => ?_)
  show am_ex 40 239 412 [some (.ref 0), some (.ref 5), some (.ref 285), some (.int (nI i))] [.int x1, .int x1] (am_hh X S2 L2) _
  refine ax_cmp_eq rfl (fun c1 => ?_) (fun c1 => False.elim (by first | exact c1 (rfl) | exact (rfl) c1))
  exact k S2 L2 J2
theorem law_7 {X : Nat × (Nat → Int32)} {S : Nat → Nat → Int32} {L : Nat → Int64} {i : Nat} {Q : Option Value → am_H → Prop} (hX : X.1 < 2 ^ 31) (hi : i + 5 < X.1) (J : JJ S) (k : ∀ S2 L2, JJ S2 → am_ex 40 239 1298 [some (.ref 0), some (.ref 5), some (.ref 285), some (.int (nI i))] [] (am_hh X S2 L2) Q) : am_ex 40 239 417 [some (.ref 0), some (.ref 5), some (.ref 285), some (.int (nI i))] [] (am_hh X S L) Q := by
  refine ax_s (pc' := 418) (st' := [.ref 5]) rfl rfl rfl rfl ?_
  refine ax_call (vs := [.ref 5]) (rr := []) rfl rfl rfl ?_
  refine bo_k (bo_undo J ) rfl (fun x1 S1 L1 hm1 => ?_)
  show am_ex 40 239 421 [some (.ref 0), some (.ref 5), some (.ref 285), some (.int (nI i))] [.int x1] (am_hh X S1 L1) _
  refine ax_s (pc' := 422) (st' := [.ref 285, .int x1]) rfl rfl rfl rfl ?_
  refine ax_call (vs := [.ref 285]) (rr := [.int x1]) rfl rfl rfl ?_
  refine bo_m hm1 (fun S2 L2 J2 => ?_)
  show am_ex 40 239 425 [some (.ref 0), some (.ref 5), some (.ref 285), some (.int (nI i))] [.int x1, .int x1] (am_hh X S2 L2) _
  refine ax_cmp_eq rfl (fun c1 => ?_) (fun c1 => False.elim (by first | exact c1 (rfl) | exact (rfl) c1))
  exact k S2 L2 J2
theorem law_8 {X : Nat × (Nat → Int32)} {S : Nat → Nat → Int32} {L : Nat → Int64} {i : Nat} {Q : Option Value → am_H → Prop} (hX : X.1 < 2 ^ 31) (hi : i + 5 < X.1) (J : JJ S) (k : ∀ S2 L2, JJ S2 → am_ex 40 239 1298 [some (.ref 0), some (.ref 5), some (.ref 285), some (.int (nI i))] [] (am_hh X S2 L2) Q) : am_ex 40 239 430 [some (.ref 0), some (.ref 5), some (.ref 285), some (.int (nI i))] [] (am_hh X S L) Q := by
  refine ax_s (pc' := 431) (st' := [.ref 5]) rfl rfl rfl rfl ?_
  refine ax_s (pc' := 432) (st' := [.ref 0, .ref 5]) rfl rfl rfl rfl ?_
  refine ax_s (pc' := 433) (st' := [.int (nI i), .ref 0, .ref 5]) rfl rfl rfl rfl ?_
  refine ax_s (pc' := 434) (st' := [.int 1, .int (nI i), .ref 0, .ref 5]) rfl rfl rfl rfl ?_
  refine ax_s (pc' := 435) (st' := [.int ((nI i) + 1), .ref 0, .ref 5]) rfl rfl rfl rfl ?_
  refine ax_ald (j := (i + 1)) (v := (X.2 (i + 1))) rfl (hh_s0 _ _ _) rfl (am_na (x := i) (y := 1) rfl rfl) (show (i + 1) < X.1 by omega) hX rfl ?_
  refine ax_call (vs := [.ref 5, .int (X.2 (i + 1))]) (rr := []) rfl rfl rfl ?_
  refine bo_k (bo_steps J (X.2 (i + 1))) rfl (fun x1 S1 L1 hm1 => ?_)
  show am_ex 40 239 439 [some (.ref 0), some (.ref 5), some (.ref 285), some (.int (nI i))] [.int x1] (am_hh X S1 L1) _
  refine ax_s (pc' := 440) (st' := [.ref 285, .int x1]) rfl rfl rfl rfl ?_
  refine ax_s (pc' := 441) (st' := [.ref 0, .ref 285, .int x1]) rfl rfl rfl rfl ?_
  refine ax_s (pc' := 442) (st' := [.int (nI i), .ref 0, .ref 285, .int x1]) rfl rfl rfl rfl ?_
  refine ax_s (pc' := 443) (st' := [.int 1, .int (nI i), .ref 0, .ref 285, .int x1]) rfl rfl rfl rfl ?_
  refine ax_s (pc' := 444) (st' := [.int ((nI i) + 1), .ref 0, .ref 285, .int x1]) rfl rfl rfl rfl ?_
  refine ax_ald (j := (i + 1)) (v := (X.2 (i + 1))) rfl (hh_s0 _ _ _) rfl (am_na (x := i) (y := 1) rfl rfl) (show (i + 1) < X.1 by omega) hX rfl ?_
  refine ax_call (vs := [.ref 285, .int (X.2 (i + 1))]) (rr := [.int x1]) rfl rfl rfl ?_
  refine bo_m hm1 (fun S2 L2 J2 => ?_)
  show am_ex 40 239 448 [some (.ref 0), some (.ref 5), some (.ref 285), some (.int (nI i))] [.int x1, .int x1] (am_hh X S2 L2) _
  refine ax_cmp_eq rfl (fun c1 => ?_) (fun c1 => False.elim (by first | exact c1 (rfl) | exact (rfl) c1))
  exact k S2 L2 J2
theorem law_9 {X : Nat × (Nat → Int32)} {S : Nat → Nat → Int32} {L : Nat → Int64} {i : Nat} {Q : Option Value → am_H → Prop} (hX : X.1 < 2 ^ 31) (hi : i + 5 < X.1) (J : JJ S) (k : ∀ S2 L2, JJ S2 → am_ex 40 239 1298 [some (.ref 0), some (.ref 5), some (.ref 285), some (.int (nI i))] [] (am_hh X S2 L2) Q) : am_ex 40 239 453 [some (.ref 0), some (.ref 5), some (.ref 285), some (.int (nI i))] [] (am_hh X S L) Q := by
  refine ax_s (pc' := 454) (st' := [.ref 5]) rfl rfl rfl rfl ?_
  refine ax_s (pc' := 455) (st' := [.ref 0, .ref 5]) rfl rfl rfl rfl ?_
  refine ax_s (pc' := 456) (st' := [.int (nI i), .ref 0, .ref 5]) rfl rfl rfl rfl ?_
  refine ax_s (pc' := 457) (st' := [.int 1, .int (nI i), .ref 0, .ref 5]) rfl rfl rfl rfl ?_
  refine ax_s (pc' := 458) (st' := [.int ((nI i) + 1), .ref 0, .ref 5]) rfl rfl rfl rfl ?_
  refine ax_ald (j := (i + 1)) (v := (X.2 (i + 1))) rfl (hh_s0 _ _ _) rfl (am_na (x := i) (y := 1) rfl rfl) (show (i + 1) < X.1 by omega) hX rfl ?_
  refine ax_call (vs := [.ref 5, .int (X.2 (i + 1))]) (rr := []) rfl rfl rfl ?_
  refine bo_k (bo_turnTo J (X.2 (i + 1))) rfl (fun x1 S1 L1 hm1 => ?_)
  show am_ex 40 239 462 [some (.ref 0), some (.ref 5), some (.ref 285), some (.int (nI i))] [.int x1] (am_hh X S1 L1) _
  refine ax_s (pc' := 463) (st' := [.ref 285, .int x1]) rfl rfl rfl rfl ?_
  refine ax_s (pc' := 464) (st' := [.ref 0, .ref 285, .int x1]) rfl rfl rfl rfl ?_
  refine ax_s (pc' := 465) (st' := [.int (nI i), .ref 0, .ref 285, .int x1]) rfl rfl rfl rfl ?_
  refine ax_s (pc' := 466) (st' := [.int 1, .int (nI i), .ref 0, .ref 285, .int x1]) rfl rfl rfl rfl ?_
  refine ax_s (pc' := 467) (st' := [.int ((nI i) + 1), .ref 0, .ref 285, .int x1]) rfl rfl rfl rfl ?_
  refine ax_ald (j := (i + 1)) (v := (X.2 (i + 1))) rfl (hh_s0 _ _ _) rfl (am_na (x := i) (y := 1) rfl rfl) (show (i + 1) < X.1 by omega) hX rfl ?_
  refine ax_call (vs := [.ref 285, .int (X.2 (i + 1))]) (rr := [.int x1]) rfl rfl rfl ?_
  refine bo_m hm1 (fun S2 L2 J2 => ?_)
  show am_ex 40 239 471 [some (.ref 0), some (.ref 5), some (.ref 285), some (.int (nI i))] [.int x1, .int x1] (am_hh X S2 L2) _
  refine ax_cmp_eq rfl (fun c1 => ?_) (fun c1 => False.elim (by first | exact c1 (rfl) | exact (rfl) c1))
  exact k S2 L2 J2
theorem law_10 {X : Nat × (Nat → Int32)} {S : Nat → Nat → Int32} {L : Nat → Int64} {i : Nat} {Q : Option Value → am_H → Prop} (hX : X.1 < 2 ^ 31) (hi : i + 5 < X.1) (J : JJ S) (k : ∀ S2 L2, JJ S2 → am_ex 40 239 1298 [some (.ref 0), some (.ref 5), some (.ref 285), some (.int (nI i))] [] (am_hh X S2 L2) Q) : am_ex 40 239 476 [some (.ref 0), some (.ref 5), some (.ref 285), some (.int (nI i))] [] (am_hh X S L) Q := by
  refine ax_s (pc' := 477) (st' := [.ref 5]) rfl rfl rfl rfl ?_
  refine ax_s (pc' := 478) (st' := [.ref 0, .ref 5]) rfl rfl rfl rfl ?_
  refine ax_s (pc' := 479) (st' := [.int (nI i), .ref 0, .ref 5]) rfl rfl rfl rfl ?_
  refine ax_s (pc' := 480) (st' := [.int 1, .int (nI i), .ref 0, .ref 5]) rfl rfl rfl rfl ?_
  refine ax_s (pc' := 481) (st' := [.int ((nI i) + 1), .ref 0, .ref 5]) rfl rfl rfl rfl ?_
  refine ax_ald (j := (i + 1)) (v := (X.2 (i + 1))) rfl (hh_s0 _ _ _) rfl (am_na (x := i) (y := 1) rfl rfl) (show (i + 1) < X.1 by omega) hX rfl ?_
  refine ax_s (pc' := 483) (st' := [.ref 0, .int (X.2 (i + 1)), .ref 5]) rfl rfl rfl rfl ?_
  refine ax_s (pc' := 484) (st' := [.int (nI i), .ref 0, .int (X.2 (i + 1)), .ref 5]) rfl rfl rfl rfl ?_
  refine ax_s (pc' := 485) (st' := [.int 2, .int (nI i), .ref 0, .int (X.2 (i + 1)), .ref 5]) rfl rfl rfl rfl ?_
  refine ax_s (pc' := 486) (st' := [.int ((nI i) + 2), .ref 0, .int (X.2 (i + 1)), .ref 5]) rfl rfl rfl rfl ?_
  refine ax_ald (j := (i + 2)) (v := (X.2 (i + 2))) rfl (hh_s0 _ _ _) rfl (am_na (x := i) (y := 2) rfl rfl) (show (i + 2) < X.1 by omega) hX rfl ?_
  refine ax_call (vs := [.ref 5, .int (X.2 (i + 1)), .int (X.2 (i + 2))]) (rr := []) rfl rfl rfl ?_
  refine bo_k (bo_ballast J (X.2 (i + 1)) (X.2 (i + 2))) rfl (fun x1 S1 L1 hm1 => ?_)
  show am_ex 40 239 490 [some (.ref 0), some (.ref 5), some (.ref 285), some (.int (nI i))] [.int x1] (am_hh X S1 L1) _
  refine ax_s (pc' := 491) (st' := [.ref 285, .int x1]) rfl rfl rfl rfl ?_
  refine ax_s (pc' := 492) (st' := [.ref 0, .ref 285, .int x1]) rfl rfl rfl rfl ?_
  refine ax_s (pc' := 493) (st' := [.int (nI i), .ref 0, .ref 285, .int x1]) rfl rfl rfl rfl ?_
  refine ax_s (pc' := 494) (st' := [.int 1, .int (nI i), .ref 0, .ref 285, .int x1]) rfl rfl rfl rfl ?_
  refine ax_s (pc' := 495) (st' := [.int ((nI i) + 1), .ref 0, .ref 285, .int x1]) rfl rfl rfl rfl ?_
  refine ax_ald (j := (i + 1)) (v := (X.2 (i + 1))) rfl (hh_s0 _ _ _) rfl (am_na (x := i) (y := 1) rfl rfl) (show (i + 1) < X.1 by omega) hX rfl ?_
  refine ax_s (pc' := 497) (st' := [.ref 0, .int (X.2 (i + 1)), .ref 285, .int x1]) rfl rfl rfl rfl ?_
  refine ax_s (pc' := 498) (st' := [.int (nI i), .ref 0, .int (X.2 (i + 1)), .ref 285, .int x1]) rfl rfl rfl rfl ?_
  refine ax_s (pc' := 499) (st' := [.int 2, .int (nI i), .ref 0, .int (X.2 (i + 1)), .ref 285, .int x1]) rfl rfl rfl rfl ?_
  refine ax_s (pc' := 500) (st' := [.int ((nI i) + 2), .ref 0, .int (X.2 (i + 1)), .ref 285, .int x1]) rfl rfl rfl rfl ?_
  refine ax_ald (j := (i + 2)) (v := (X.2 (i + 2))) rfl (hh_s0 _ _ _) rfl (am_na (x := i) (y := 2) rfl rfl) (show (i + 2) < X.1 by omega) hX rfl ?_
  refine ax_call (vs := [.ref 285, .int (X.2 (i + 1)), .int (X.2 (i + 2))]) (rr := [.int x1]) rfl rfl rfl ?_
  refine bo_m hm1 (fun S2 L2 J2 => ?_)
  show am_ex 40 239 504 [some (.ref 0), some (.ref 5), some (.ref 285), some (.int (nI i))] [.int x1, .int x1] (am_hh X S2 L2) _
  refine ax_cmp_eq rfl (fun c1 => ?_) (fun c1 => False.elim (by first | exact c1 (rfl) | exact (rfl) c1))
  exact k S2 L2 J2
theorem law_11 {X : Nat × (Nat → Int32)} {S : Nat → Nat → Int32} {L : Nat → Int64} {i : Nat} {Q : Option Value → am_H → Prop} (hX : X.1 < 2 ^ 31) (hi : i + 5 < X.1) (J : JJ S) (k : ∀ S2 L2, JJ S2 → am_ex 40 239 1298 [some (.ref 0), some (.ref 5), some (.ref 285), some (.int (nI i))] [] (am_hh X S2 L2) Q) : am_ex 40 239 509 [some (.ref 0), some (.ref 5), some (.ref 285), some (.int (nI i))] [] (am_hh X S L) Q := by
  refine ax_s (pc' := 510) (st' := [.ref 5]) rfl rfl rfl rfl ?_
  refine ax_s (pc' := 511) (st' := [.ref 0, .ref 5]) rfl rfl rfl rfl ?_
  refine ax_s (pc' := 512) (st' := [.int (nI i), .ref 0, .ref 5]) rfl rfl rfl rfl ?_
  refine ax_s (pc' := 513) (st' := [.int 1, .int (nI i), .ref 0, .ref 5]) rfl rfl rfl rfl ?_
  refine ax_s (pc' := 514) (st' := [.int ((nI i) + 1), .ref 0, .ref 5]) rfl rfl rfl rfl ?_
  refine ax_ald (j := (i + 1)) (v := (X.2 (i + 1))) rfl (hh_s0 _ _ _) rfl (am_na (x := i) (y := 1) rfl rfl) (show (i + 1) < X.1 by omega) hX rfl ?_
  refine ax_call (vs := [.ref 5, .int (X.2 (i + 1))]) (rr := []) rfl rfl rfl ?_
  refine bo_k (bo_limit J (X.2 (i + 1))) rfl (fun x1 S1 L1 hm1 => ?_)
  show am_ex 40 239 518 [some (.ref 0), some (.ref 5), some (.ref 285), some (.int (nI i))] [.int x1] (am_hh X S1 L1) _
  refine ax_s (pc' := 519) (st' := [.ref 285, .int x1]) rfl rfl rfl rfl ?_
  refine ax_s (pc' := 520) (st' := [.ref 0, .ref 285, .int x1]) rfl rfl rfl rfl ?_
  refine ax_s (pc' := 521) (st' := [.int (nI i), .ref 0, .ref 285, .int x1]) rfl rfl rfl rfl ?_
  refine ax_s (pc' := 522) (st' := [.int 1, .int (nI i), .ref 0, .ref 285, .int x1]) rfl rfl rfl rfl ?_
  refine ax_s (pc' := 523) (st' := [.int ((nI i) + 1), .ref 0, .ref 285, .int x1]) rfl rfl rfl rfl ?_
  refine ax_ald (j := (i + 1)) (v := (X.2 (i + 1))) rfl (hh_s0 _ _ _) rfl (am_na (x := i) (y := 1) rfl rfl) (show (i + 1) < X.1 by omega) hX rfl ?_
  refine ax_call (vs := [.ref 285, .int (X.2 (i + 1))]) (rr := [.int x1]) rfl rfl rfl ?_
  refine bo_m hm1 (fun S2 L2 J2 => ?_)
  show am_ex 40 239 527 [some (.ref 0), some (.ref 5), some (.ref 285), some (.int (nI i))] [.int x1, .int x1] (am_hh X S2 L2) _
  refine ax_cmp_eq rfl (fun c1 => ?_) (fun c1 => False.elim (by first | exact c1 (rfl) | exact (rfl) c1))
  exact k S2 L2 J2
theorem law_12 {X : Nat × (Nat → Int32)} {S : Nat → Nat → Int32} {L : Nat → Int64} {i : Nat} {Q : Option Value → am_H → Prop} (hX : X.1 < 2 ^ 31) (hi : i + 5 < X.1) (J : JJ S) (k : ∀ S2 L2, JJ S2 → am_ex 40 239 1298 [some (.ref 0), some (.ref 5), some (.ref 285), some (.int (nI i))] [] (am_hh X S2 L2) Q) : am_ex 40 239 532 [some (.ref 0), some (.ref 5), some (.ref 285), some (.int (nI i))] [] (am_hh X S L) Q := by
  refine ax_s (pc' := 533) (st' := [.ref 5]) rfl rfl rfl rfl ?_
  refine ax_s (pc' := 534) (st' := [.ref 0, .ref 5]) rfl rfl rfl rfl ?_
  refine ax_s (pc' := 535) (st' := [.int (nI i), .ref 0, .ref 5]) rfl rfl rfl rfl ?_
  refine ax_s (pc' := 536) (st' := [.int 1, .int (nI i), .ref 0, .ref 5]) rfl rfl rfl rfl ?_
  refine ax_s (pc' := 537) (st' := [.int ((nI i) + 1), .ref 0, .ref 5]) rfl rfl rfl rfl ?_
  refine ax_ald (j := (i + 1)) (v := (X.2 (i + 1))) rfl (hh_s0 _ _ _) rfl (am_na (x := i) (y := 1) rfl rfl) (show (i + 1) < X.1 by omega) hX rfl ?_
  refine ax_call (vs := [.ref 5, .int (X.2 (i + 1))]) (rr := []) rfl rfl rfl ?_
  refine bo_k (bo_again J (X.2 (i + 1))) rfl (fun x1 S1 L1 hm1 => ?_)
  show am_ex 40 239 541 [some (.ref 0), some (.ref 5), some (.ref 285), some (.int (nI i))] [.int x1] (am_hh X S1 L1) _
  refine ax_s (pc' := 542) (st' := [.ref 285, .int x1]) rfl rfl rfl rfl ?_
  refine ax_s (pc' := 543) (st' := [.ref 0, .ref 285, .int x1]) rfl rfl rfl rfl ?_
  refine ax_s (pc' := 544) (st' := [.int (nI i), .ref 0, .ref 285, .int x1]) rfl rfl rfl rfl ?_
  refine ax_s (pc' := 545) (st' := [.int 1, .int (nI i), .ref 0, .ref 285, .int x1]) rfl rfl rfl rfl ?_
  refine ax_s (pc' := 546) (st' := [.int ((nI i) + 1), .ref 0, .ref 285, .int x1]) rfl rfl rfl rfl ?_
  refine ax_ald (j := (i + 1)) (v := (X.2 (i + 1))) rfl (hh_s0 _ _ _) rfl (am_na (x := i) (y := 1) rfl rfl) (show (i + 1) < X.1 by omega) hX rfl ?_
  refine ax_call (vs := [.ref 285, .int (X.2 (i + 1))]) (rr := [.int x1]) rfl rfl rfl ?_
  refine bo_m hm1 (fun S2 L2 J2 => ?_)
  show am_ex 40 239 550 [some (.ref 0), some (.ref 5), some (.ref 285), some (.int (nI i))] [.int x1, .int x1] (am_hh X S2 L2) _
  refine ax_cmp_eq rfl (fun c1 => ?_) (fun c1 => False.elim (by first | exact c1 (rfl) | exact (rfl) c1))
  exact k S2 L2 J2
theorem law_13 {X : Nat × (Nat → Int32)} {S : Nat → Nat → Int32} {L : Nat → Int64} {i : Nat} {Q : Option Value → am_H → Prop} (hX : X.1 < 2 ^ 31) (hi : i + 5 < X.1) (J : JJ S) (k : ∀ S2 L2, JJ S2 → am_ex 40 239 1298 [some (.ref 0), some (.ref 5), some (.ref 285), some (.int (nI i))] [] (am_hh X S2 L2) Q) : am_ex 40 239 555 [some (.ref 0), some (.ref 5), some (.ref 285), some (.int (nI i))] [] (am_hh X S L) Q := by
  refine ax_s (pc' := 556) (st' := [.ref 5]) rfl rfl rfl rfl ?_
  refine ax_s (pc' := 557) (st' := [.ref 0, .ref 5]) rfl rfl rfl rfl ?_
  refine ax_s (pc' := 558) (st' := [.int (nI i), .ref 0, .ref 5]) rfl rfl rfl rfl ?_
  refine ax_s (pc' := 559) (st' := [.int 1, .int (nI i), .ref 0, .ref 5]) rfl rfl rfl rfl ?_
  refine ax_s (pc' := 560) (st' := [.int ((nI i) + 1), .ref 0, .ref 5]) rfl rfl rfl rfl ?_
  refine ax_ald (j := (i + 1)) (v := (X.2 (i + 1))) rfl (hh_s0 _ _ _) rfl (am_na (x := i) (y := 1) rfl rfl) (show (i + 1) < X.1 by omega) hX rfl ?_
  refine ax_s (pc' := 562) (st' := [.ref 0, .int (X.2 (i + 1)), .ref 5]) rfl rfl rfl rfl ?_
  refine ax_s (pc' := 563) (st' := [.int (nI i), .ref 0, .int (X.2 (i + 1)), .ref 5]) rfl rfl rfl rfl ?_
  refine ax_s (pc' := 564) (st' := [.int 2, .int (nI i), .ref 0, .int (X.2 (i + 1)), .ref 5]) rfl rfl rfl rfl ?_
  refine ax_s (pc' := 565) (st' := [.int ((nI i) + 2), .ref 0, .int (X.2 (i + 1)), .ref 5]) rfl rfl rfl rfl ?_
  refine ax_ald (j := (i + 2)) (v := (X.2 (i + 2))) rfl (hh_s0 _ _ _) rfl (am_na (x := i) (y := 2) rfl rfl) (show (i + 2) < X.1 by omega) hX rfl ?_
  refine ax_call (vs := [.ref 5, .int (X.2 (i + 1)), .int (X.2 (i + 2))]) (rr := []) rfl rfl rfl ?_
  refine bo_k (bo_party J (X.2 (i + 1)) (X.2 (i + 2))) rfl (fun x1 S1 L1 hm1 => ?_)
  show am_ex 40 239 569 [some (.ref 0), some (.ref 5), some (.ref 285), some (.int (nI i))] [.int x1] (am_hh X S1 L1) _
  refine ax_s (pc' := 570) (st' := [.ref 285, .int x1]) rfl rfl rfl rfl ?_
  refine ax_s (pc' := 571) (st' := [.ref 0, .ref 285, .int x1]) rfl rfl rfl rfl ?_
  refine ax_s (pc' := 572) (st' := [.int (nI i), .ref 0, .ref 285, .int x1]) rfl rfl rfl rfl ?_
  refine ax_s (pc' := 573) (st' := [.int 1, .int (nI i), .ref 0, .ref 285, .int x1]) rfl rfl rfl rfl ?_
  refine ax_s (pc' := 574) (st' := [.int ((nI i) + 1), .ref 0, .ref 285, .int x1]) rfl rfl rfl rfl ?_
  refine ax_ald (j := (i + 1)) (v := (X.2 (i + 1))) rfl (hh_s0 _ _ _) rfl (am_na (x := i) (y := 1) rfl rfl) (show (i + 1) < X.1 by omega) hX rfl ?_
  refine ax_s (pc' := 576) (st' := [.ref 0, .int (X.2 (i + 1)), .ref 285, .int x1]) rfl rfl rfl rfl ?_
  refine ax_s (pc' := 577) (st' := [.int (nI i), .ref 0, .int (X.2 (i + 1)), .ref 285, .int x1]) rfl rfl rfl rfl ?_
  refine ax_s (pc' := 578) (st' := [.int 2, .int (nI i), .ref 0, .int (X.2 (i + 1)), .ref 285, .int x1]) rfl rfl rfl rfl ?_
  refine ax_s (pc' := 579) (st' := [.int ((nI i) + 2), .ref 0, .int (X.2 (i + 1)), .ref 285, .int x1]) rfl rfl rfl rfl ?_
  refine ax_ald (j := (i + 2)) (v := (X.2 (i + 2))) rfl (hh_s0 _ _ _) rfl (am_na (x := i) (y := 2) rfl rfl) (show (i + 2) < X.1 by omega) hX rfl ?_
  refine ax_call (vs := [.ref 285, .int (X.2 (i + 1)), .int (X.2 (i + 2))]) (rr := [.int x1]) rfl rfl rfl ?_
  refine bo_m hm1 (fun S2 L2 J2 => ?_)
  show am_ex 40 239 583 [some (.ref 0), some (.ref 5), some (.ref 285), some (.int (nI i))] [.int x1, .int x1] (am_hh X S2 L2) _
  refine ax_cmp_eq rfl (fun c1 => ?_) (fun c1 => False.elim (by first | exact c1 (rfl) | exact (rfl) c1))
  exact k S2 L2 J2
theorem law_14 {X : Nat × (Nat → Int32)} {S : Nat → Nat → Int32} {L : Nat → Int64} {i : Nat} {Q : Option Value → am_H → Prop} (hX : X.1 < 2 ^ 31) (hi : i + 5 < X.1) (J : JJ S) (k : ∀ S2 L2, JJ S2 → am_ex 40 239 1298 [some (.ref 0), some (.ref 5), some (.ref 285), some (.int (nI i))] [] (am_hh X S2 L2) Q) : am_ex 40 239 588 [some (.ref 0), some (.ref 5), some (.ref 285), some (.int (nI i))] [] (am_hh X S L) Q := by
  refine ax_s (pc' := 589) (st' := [.ref 5]) rfl rfl rfl rfl ?_
  refine ax_s (pc' := 590) (st' := [.ref 0, .ref 5]) rfl rfl rfl rfl ?_
  refine ax_s (pc' := 591) (st' := [.int (nI i), .ref 0, .ref 5]) rfl rfl rfl rfl ?_
  refine ax_s (pc' := 592) (st' := [.int 1, .int (nI i), .ref 0, .ref 5]) rfl rfl rfl rfl ?_
  refine ax_s (pc' := 593) (st' := [.int ((nI i) + 1), .ref 0, .ref 5]) rfl rfl rfl rfl ?_
  refine ax_ald (j := (i + 1)) (v := (X.2 (i + 1))) rfl (hh_s0 _ _ _) rfl (am_na (x := i) (y := 1) rfl rfl) (show (i + 1) < X.1 by omega) hX rfl ?_
  refine ax_s (pc' := 595) (st' := [.ref 0, .int (X.2 (i + 1)), .ref 5]) rfl rfl rfl rfl ?_
  refine ax_s (pc' := 596) (st' := [.int (nI i), .ref 0, .int (X.2 (i + 1)), .ref 5]) rfl rfl rfl rfl ?_
  refine ax_s (pc' := 597) (st' := [.int 2, .int (nI i), .ref 0, .int (X.2 (i + 1)), .ref 5]) rfl rfl rfl rfl ?_
  refine ax_s (pc' := 598) (st' := [.int ((nI i) + 2), .ref 0, .int (X.2 (i + 1)), .ref 5]) rfl rfl rfl rfl ?_
  refine ax_ald (j := (i + 2)) (v := (X.2 (i + 2))) rfl (hh_s0 _ _ _) rfl (am_na (x := i) (y := 2) rfl rfl) (show (i + 2) < X.1 by omega) hX rfl ?_
  refine ax_call (vs := [.ref 5, .int (X.2 (i + 1)), .int (X.2 (i + 2))]) (rr := []) rfl rfl rfl ?_
  refine bo_k (bo_gondola J (X.2 (i + 1)) (X.2 (i + 2))) rfl (fun x1 S1 L1 hm1 => ?_)
  show am_ex 40 239 602 [some (.ref 0), some (.ref 5), some (.ref 285), some (.int (nI i))] [.int x1] (am_hh X S1 L1) _
  refine ax_s (pc' := 603) (st' := [.ref 285, .int x1]) rfl rfl rfl rfl ?_
  refine ax_s (pc' := 604) (st' := [.ref 0, .ref 285, .int x1]) rfl rfl rfl rfl ?_
  refine ax_s (pc' := 605) (st' := [.int (nI i), .ref 0, .ref 285, .int x1]) rfl rfl rfl rfl ?_
  refine ax_s (pc' := 606) (st' := [.int 1, .int (nI i), .ref 0, .ref 285, .int x1]) rfl rfl rfl rfl ?_
  refine ax_s (pc' := 607) (st' := [.int ((nI i) + 1), .ref 0, .ref 285, .int x1]) rfl rfl rfl rfl ?_
  refine ax_ald (j := (i + 1)) (v := (X.2 (i + 1))) rfl (hh_s0 _ _ _) rfl (am_na (x := i) (y := 1) rfl rfl) (show (i + 1) < X.1 by omega) hX rfl ?_
  refine ax_s (pc' := 609) (st' := [.ref 0, .int (X.2 (i + 1)), .ref 285, .int x1]) rfl rfl rfl rfl ?_
  refine ax_s (pc' := 610) (st' := [.int (nI i), .ref 0, .int (X.2 (i + 1)), .ref 285, .int x1]) rfl rfl rfl rfl ?_
  refine ax_s (pc' := 611) (st' := [.int 2, .int (nI i), .ref 0, .int (X.2 (i + 1)), .ref 285, .int x1]) rfl rfl rfl rfl ?_
  refine ax_s (pc' := 612) (st' := [.int ((nI i) + 2), .ref 0, .int (X.2 (i + 1)), .ref 285, .int x1]) rfl rfl rfl rfl ?_
  refine ax_ald (j := (i + 2)) (v := (X.2 (i + 2))) rfl (hh_s0 _ _ _) rfl (am_na (x := i) (y := 2) rfl rfl) (show (i + 2) < X.1 by omega) hX rfl ?_
  refine ax_call (vs := [.ref 285, .int (X.2 (i + 1)), .int (X.2 (i + 2))]) (rr := [.int x1]) rfl rfl rfl ?_
  refine bo_m hm1 (fun S2 L2 J2 => ?_)
  show am_ex 40 239 616 [some (.ref 0), some (.ref 5), some (.ref 285), some (.int (nI i))] [.int x1, .int x1] (am_hh X S2 L2) _
  refine ax_cmp_eq rfl (fun c1 => ?_) (fun c1 => False.elim (by first | exact c1 (rfl) | exact (rfl) c1))
  exact k S2 L2 J2
theorem law_15 {X : Nat × (Nat → Int32)} {S : Nat → Nat → Int32} {L : Nat → Int64} {i : Nat} {Q : Option Value → am_H → Prop} (hX : X.1 < 2 ^ 31) (hi : i + 5 < X.1) (J : JJ S) (k : ∀ S2 L2, JJ S2 → am_ex 40 239 1298 [some (.ref 0), some (.ref 5), some (.ref 285), some (.int (nI i))] [] (am_hh X S2 L2) Q) : am_ex 40 239 621 [some (.ref 0), some (.ref 5), some (.ref 285), some (.int (nI i))] [] (am_hh X S L) Q := by
  refine ax_s (pc' := 622) (st' := [.ref 5]) rfl rfl rfl rfl ?_
  refine ax_s (pc' := 623) (st' := [.ref 0, .ref 5]) rfl rfl rfl rfl ?_
  refine ax_s (pc' := 624) (st' := [.int (nI i), .ref 0, .ref 5]) rfl rfl rfl rfl ?_
  refine ax_s (pc' := 625) (st' := [.int 1, .int (nI i), .ref 0, .ref 5]) rfl rfl rfl rfl ?_
  refine ax_s (pc' := 626) (st' := [.int ((nI i) + 1), .ref 0, .ref 5]) rfl rfl rfl rfl ?_
  refine ax_ald (j := (i + 1)) (v := (X.2 (i + 1))) rfl (hh_s0 _ _ _) rfl (am_na (x := i) (y := 1) rfl rfl) (show (i + 1) < X.1 by omega) hX rfl ?_
  refine ax_call (vs := [.ref 5, .int (X.2 (i + 1))]) (rr := []) rfl rfl rfl ?_
  refine bo_k (bo_stand J (X.2 (i + 1))) rfl (fun x1 S1 L1 hm1 => ?_)
  show am_ex 40 239 630 [some (.ref 0), some (.ref 5), some (.ref 285), some (.int (nI i))] [.int x1] (am_hh X S1 L1) _
  refine ax_s (pc' := 631) (st' := [.ref 285, .int x1]) rfl rfl rfl rfl ?_
  refine ax_s (pc' := 632) (st' := [.ref 0, .ref 285, .int x1]) rfl rfl rfl rfl ?_
  refine ax_s (pc' := 633) (st' := [.int (nI i), .ref 0, .ref 285, .int x1]) rfl rfl rfl rfl ?_
  refine ax_s (pc' := 634) (st' := [.int 1, .int (nI i), .ref 0, .ref 285, .int x1]) rfl rfl rfl rfl ?_
  refine ax_s (pc' := 635) (st' := [.int ((nI i) + 1), .ref 0, .ref 285, .int x1]) rfl rfl rfl rfl ?_
  refine ax_ald (j := (i + 1)) (v := (X.2 (i + 1))) rfl (hh_s0 _ _ _) rfl (am_na (x := i) (y := 1) rfl rfl) (show (i + 1) < X.1 by omega) hX rfl ?_
  refine ax_call (vs := [.ref 285, .int (X.2 (i + 1))]) (rr := [.int x1]) rfl rfl rfl ?_
  refine bo_m hm1 (fun S2 L2 J2 => ?_)
  show am_ex 40 239 639 [some (.ref 0), some (.ref 5), some (.ref 285), some (.int (nI i))] [.int x1, .int x1] (am_hh X S2 L2) _
  refine ax_cmp_eq rfl (fun c1 => ?_) (fun c1 => False.elim (by first | exact c1 (rfl) | exact (rfl) c1))
  exact k S2 L2 J2
theorem law_16 {X : Nat × (Nat → Int32)} {S : Nat → Nat → Int32} {L : Nat → Int64} {i : Nat} {Q : Option Value → am_H → Prop} (hX : X.1 < 2 ^ 31) (hi : i + 5 < X.1) (J : JJ S) (k : ∀ S2 L2, JJ S2 → am_ex 40 239 1298 [some (.ref 0), some (.ref 5), some (.ref 285), some (.int (nI i))] [] (am_hh X S2 L2) Q) : am_ex 40 239 644 [some (.ref 0), some (.ref 5), some (.ref 285), some (.int (nI i))] [] (am_hh X S L) Q := by
  refine ax_s (pc' := 645) (st' := [.ref 5]) rfl rfl rfl rfl ?_
  refine ax_s (pc' := 646) (st' := [.ref 0, .ref 5]) rfl rfl rfl rfl ?_
  refine ax_s (pc' := 647) (st' := [.int (nI i), .ref 0, .ref 5]) rfl rfl rfl rfl ?_
  refine ax_s (pc' := 648) (st' := [.int 1, .int (nI i), .ref 0, .ref 5]) rfl rfl rfl rfl ?_
  refine ax_s (pc' := 649) (st' := [.int ((nI i) + 1), .ref 0, .ref 5]) rfl rfl rfl rfl ?_
  refine ax_ald (j := (i + 1)) (v := (X.2 (i + 1))) rfl (hh_s0 _ _ _) rfl (am_na (x := i) (y := 1) rfl rfl) (show (i + 1) < X.1 by omega) hX rfl ?_
  refine ax_s (pc' := 651) (st' := [.ref 0, .int (X.2 (i + 1)), .ref 5]) rfl rfl rfl rfl ?_
  refine ax_s (pc' := 652) (st' := [.int (nI i), .ref 0, .int (X.2 (i + 1)), .ref 5]) rfl rfl rfl rfl ?_
  refine ax_s (pc' := 653) (st' := [.int 2, .int (nI i), .ref 0, .int (X.2 (i + 1)), .ref 5]) rfl rfl rfl rfl ?_
  refine ax_s (pc' := 654) (st' := [.int ((nI i) + 2), .ref 0, .int (X.2 (i + 1)), .ref 5]) rfl rfl rfl rfl ?_
  refine ax_ald (j := (i + 2)) (v := (X.2 (i + 2))) rfl (hh_s0 _ _ _) rfl (am_na (x := i) (y := 2) rfl rfl) (show (i + 2) < X.1 by omega) hX rfl ?_
  refine ax_s (pc' := 656) (st' := [.ref 0, .int (X.2 (i + 2)), .int (X.2 (i + 1)), .ref 5]) rfl rfl rfl rfl ?_
  refine ax_s (pc' := 657) (st' := [.int (nI i), .ref 0, .int (X.2 (i + 2)), .int (X.2 (i + 1)), .ref 5]) rfl rfl rfl rfl ?_
  refine ax_s (pc' := 658) (st' := [.int 3, .int (nI i), .ref 0, .int (X.2 (i + 2)), .int (X.2 (i + 1)), .ref 5]) rfl rfl rfl rfl ?_
  refine ax_s (pc' := 659) (st' := [.int ((nI i) + 3), .ref 0, .int (X.2 (i + 2)), .int (X.2 (i + 1)), .ref 5]) rfl rfl rfl rfl ?_
  refine ax_ald (j := (i + 3)) (v := (X.2 (i + 3))) rfl (hh_s0 _ _ _) rfl (am_na (x := i) (y := 3) rfl rfl) (show (i + 3) < X.1 by omega) hX rfl ?_
  refine ax_call (vs := [.ref 5, .int (X.2 (i + 1)), .int (X.2 (i + 2)), .int (X.2 (i + 3))]) (rr := []) rfl rfl rfl ?_
  refine bo_k (bo_ahead J (X.2 (i + 1)) (X.2 (i + 2)) (X.2 (i + 3))) rfl (fun x1 S1 L1 hm1 => ?_)
  show am_ex 40 239 663 [some (.ref 0), some (.ref 5), some (.ref 285), some (.int (nI i))] [.int x1] (am_hh X S1 L1) _
  refine ax_s (pc' := 664) (st' := [.ref 285, .int x1]) rfl rfl rfl rfl ?_
  refine ax_s (pc' := 665) (st' := [.ref 0, .ref 285, .int x1]) rfl rfl rfl rfl ?_
  refine ax_s (pc' := 666) (st' := [.int (nI i), .ref 0, .ref 285, .int x1]) rfl rfl rfl rfl ?_
  refine ax_s (pc' := 667) (st' := [.int 1, .int (nI i), .ref 0, .ref 285, .int x1]) rfl rfl rfl rfl ?_
  refine ax_s (pc' := 668) (st' := [.int ((nI i) + 1), .ref 0, .ref 285, .int x1]) rfl rfl rfl rfl ?_
  refine ax_ald (j := (i + 1)) (v := (X.2 (i + 1))) rfl (hh_s0 _ _ _) rfl (am_na (x := i) (y := 1) rfl rfl) (show (i + 1) < X.1 by omega) hX rfl ?_
  refine ax_s (pc' := 670) (st' := [.ref 0, .int (X.2 (i + 1)), .ref 285, .int x1]) rfl rfl rfl rfl ?_
  refine ax_s (pc' := 671) (st' := [.int (nI i), .ref 0, .int (X.2 (i + 1)), .ref 285, .int x1]) rfl rfl rfl rfl ?_
  refine ax_s (pc' := 672) (st' := [.int 2, .int (nI i), .ref 0, .int (X.2 (i + 1)), .ref 285, .int x1]) rfl rfl rfl rfl ?_
  refine ax_s (pc' := 673) (st' := [.int ((nI i) + 2), .ref 0, .int (X.2 (i + 1)), .ref 285, .int x1]) rfl rfl rfl rfl ?_
  refine ax_ald (j := (i + 2)) (v := (X.2 (i + 2))) rfl (hh_s0 _ _ _) rfl (am_na (x := i) (y := 2) rfl rfl) (show (i + 2) < X.1 by omega) hX rfl ?_
  refine ax_s (pc' := 675) (st' := [.ref 0, .int (X.2 (i + 2)), .int (X.2 (i + 1)), .ref 285, .int x1]) rfl rfl rfl rfl ?_
  refine ax_s (pc' := 676) (st' := [.int (nI i), .ref 0, .int (X.2 (i + 2)), .int (X.2 (i + 1)), .ref 285, .int x1]) rfl rfl rfl rfl ?_
  refine ax_s (pc' := 677) (st' := [.int 3, .int (nI i), .ref 0, .int (X.2 (i + 2)), .int (X.2 (i + 1)), .ref 285, .int x1]) rfl rfl rfl rfl ?_
  refine ax_s (pc' := 678) (st' := [.int ((nI i) + 3), .ref 0, .int (X.2 (i + 2)), .int (X.2 (i + 1)), .ref 285, .int x1]) rfl rfl rfl rfl ?_
  refine ax_ald (j := (i + 3)) (v := (X.2 (i + 3))) rfl (hh_s0 _ _ _) rfl (am_na (x := i) (y := 3) rfl rfl) (show (i + 3) < X.1 by omega) hX rfl ?_
  refine ax_call (vs := [.ref 285, .int (X.2 (i + 1)), .int (X.2 (i + 2)), .int (X.2 (i + 3))]) (rr := [.int x1]) rfl rfl rfl ?_
  refine bo_m hm1 (fun S2 L2 J2 => ?_)
  show am_ex 40 239 682 [some (.ref 0), some (.ref 5), some (.ref 285), some (.int (nI i))] [.int x1, .int x1] (am_hh X S2 L2) _
  refine ax_cmp_eq rfl (fun c1 => ?_) (fun c1 => False.elim (by first | exact c1 (rfl) | exact (rfl) c1))
  exact k S2 L2 J2
theorem law_17 {X : Nat × (Nat → Int32)} {S : Nat → Nat → Int32} {L : Nat → Int64} {i : Nat} {Q : Option Value → am_H → Prop} (hX : X.1 < 2 ^ 31) (hi : i + 5 < X.1) (J : JJ S) (k : ∀ S2 L2, JJ S2 → am_ex 40 239 1298 [some (.ref 0), some (.ref 5), some (.ref 285), some (.int (nI i))] [] (am_hh X S2 L2) Q) : am_ex 40 239 687 [some (.ref 0), some (.ref 5), some (.ref 285), some (.int (nI i))] [] (am_hh X S L) Q := by
  refine ax_s (pc' := 688) (st' := [.ref 5]) rfl rfl rfl rfl ?_
  refine ax_s (pc' := 689) (st' := [.ref 0, .ref 5]) rfl rfl rfl rfl ?_
  refine ax_s (pc' := 690) (st' := [.int (nI i), .ref 0, .ref 5]) rfl rfl rfl rfl ?_
  refine ax_s (pc' := 691) (st' := [.int 1, .int (nI i), .ref 0, .ref 5]) rfl rfl rfl rfl ?_
  refine ax_s (pc' := 692) (st' := [.int ((nI i) + 1), .ref 0, .ref 5]) rfl rfl rfl rfl ?_
  refine ax_ald (j := (i + 1)) (v := (X.2 (i + 1))) rfl (hh_s0 _ _ _) rfl (am_na (x := i) (y := 1) rfl rfl) (show (i + 1) < X.1 by omega) hX rfl ?_
  refine ax_call (vs := [.ref 5, .int (X.2 (i + 1))]) (rr := []) rfl rfl rfl ?_
  refine bo_k (bo_leans J (X.2 (i + 1))) rfl (fun x1 S1 L1 hm1 => ?_)
  show am_ex 40 239 696 [some (.ref 0), some (.ref 5), some (.ref 285), some (.int (nI i))] [.int x1] (am_hh X S1 L1) _
  refine ax_s (pc' := 697) (st' := [.ref 285, .int x1]) rfl rfl rfl rfl ?_
  refine ax_s (pc' := 698) (st' := [.ref 0, .ref 285, .int x1]) rfl rfl rfl rfl ?_
  refine ax_s (pc' := 699) (st' := [.int (nI i), .ref 0, .ref 285, .int x1]) rfl rfl rfl rfl ?_
  refine ax_s (pc' := 700) (st' := [.int 1, .int (nI i), .ref 0, .ref 285, .int x1]) rfl rfl rfl rfl ?_
  refine ax_s (pc' := 701) (st' := [.int ((nI i) + 1), .ref 0, .ref 285, .int x1]) rfl rfl rfl rfl ?_
  refine ax_ald (j := (i + 1)) (v := (X.2 (i + 1))) rfl (hh_s0 _ _ _) rfl (am_na (x := i) (y := 1) rfl rfl) (show (i + 1) < X.1 by omega) hX rfl ?_
  refine ax_call (vs := [.ref 285, .int (X.2 (i + 1))]) (rr := [.int x1]) rfl rfl rfl ?_
  refine bo_m hm1 (fun S2 L2 J2 => ?_)
  show am_ex 40 239 705 [some (.ref 0), some (.ref 5), some (.ref 285), some (.int (nI i))] [.int x1, .int x1] (am_hh X S2 L2) _
  refine ax_cmp_eq rfl (fun c1 => ?_) (fun c1 => False.elim (by first | exact c1 (rfl) | exact (rfl) c1))
  exact k S2 L2 J2
theorem law_18 {X : Nat × (Nat → Int32)} {S : Nat → Nat → Int32} {L : Nat → Int64} {i : Nat} {Q : Option Value → am_H → Prop} (hX : X.1 < 2 ^ 31) (hi : i + 5 < X.1) (J : JJ S) (k : ∀ S2 L2, JJ S2 → am_ex 40 239 1298 [some (.ref 0), some (.ref 5), some (.ref 285), some (.int (nI i))] [] (am_hh X S2 L2) Q) : am_ex 40 239 710 [some (.ref 0), some (.ref 5), some (.ref 285), some (.int (nI i))] [] (am_hh X S L) Q := by
  refine ax_s (pc' := 711) (st' := [.ref 5]) rfl rfl rfl rfl ?_
  refine ax_s (pc' := 712) (st' := [.ref 0, .ref 5]) rfl rfl rfl rfl ?_
  refine ax_s (pc' := 713) (st' := [.int (nI i), .ref 0, .ref 5]) rfl rfl rfl rfl ?_
  refine ax_s (pc' := 714) (st' := [.int 1, .int (nI i), .ref 0, .ref 5]) rfl rfl rfl rfl ?_
  refine ax_s (pc' := 715) (st' := [.int ((nI i) + 1), .ref 0, .ref 5]) rfl rfl rfl rfl ?_
  refine ax_ald (j := (i + 1)) (v := (X.2 (i + 1))) rfl (hh_s0 _ _ _) rfl (am_na (x := i) (y := 1) rfl rfl) (show (i + 1) < X.1 by omega) hX rfl ?_
  refine ax_s (pc' := 717) (st' := [.ref 0, .int (X.2 (i + 1)), .ref 5]) rfl rfl rfl rfl ?_
  refine ax_s (pc' := 718) (st' := [.int (nI i), .ref 0, .int (X.2 (i + 1)), .ref 5]) rfl rfl rfl rfl ?_
  refine ax_s (pc' := 719) (st' := [.int 2, .int (nI i), .ref 0, .int (X.2 (i + 1)), .ref 5]) rfl rfl rfl rfl ?_
  refine ax_s (pc' := 720) (st' := [.int ((nI i) + 2), .ref 0, .int (X.2 (i + 1)), .ref 5]) rfl rfl rfl rfl ?_
  refine ax_ald (j := (i + 2)) (v := (X.2 (i + 2))) rfl (hh_s0 _ _ _) rfl (am_na (x := i) (y := 2) rfl rfl) (show (i + 2) < X.1 by omega) hX rfl ?_
  refine ax_call (vs := [.ref 5, .int (X.2 (i + 1)), .int (X.2 (i + 2))]) (rr := []) rfl rfl rfl ?_
  refine bo_k (bo_when J (X.2 (i + 1)) (X.2 (i + 2))) rfl (fun x1 S1 L1 hm1 => ?_)
  show am_ex 40 239 724 [some (.ref 0), some (.ref 5), some (.ref 285), some (.int (nI i))] [.int x1] (am_hh X S1 L1) _
  refine ax_s (pc' := 725) (st' := [.ref 285, .int x1]) rfl rfl rfl rfl ?_
  refine ax_s (pc' := 726) (st' := [.ref 0, .ref 285, .int x1]) rfl rfl rfl rfl ?_
  refine ax_s (pc' := 727) (st' := [.int (nI i), .ref 0, .ref 285, .int x1]) rfl rfl rfl rfl ?_
  refine ax_s (pc' := 728) (st' := [.int 1, .int (nI i), .ref 0, .ref 285, .int x1]) rfl rfl rfl rfl ?_
  refine ax_s (pc' := 729) (st' := [.int ((nI i) + 1), .ref 0, .ref 285, .int x1]) rfl rfl rfl rfl ?_
  refine ax_ald (j := (i + 1)) (v := (X.2 (i + 1))) rfl (hh_s0 _ _ _) rfl (am_na (x := i) (y := 1) rfl rfl) (show (i + 1) < X.1 by omega) hX rfl ?_
  refine ax_s (pc' := 731) (st' := [.ref 0, .int (X.2 (i + 1)), .ref 285, .int x1]) rfl rfl rfl rfl ?_
  refine ax_s (pc' := 732) (st' := [.int (nI i), .ref 0, .int (X.2 (i + 1)), .ref 285, .int x1]) rfl rfl rfl rfl ?_
  refine ax_s (pc' := 733) (st' := [.int 2, .int (nI i), .ref 0, .int (X.2 (i + 1)), .ref 285, .int x1]) rfl rfl rfl rfl ?_
  refine ax_s (pc' := 734) (st' := [.int ((nI i) + 2), .ref 0, .int (X.2 (i + 1)), .ref 285, .int x1]) rfl rfl rfl rfl ?_
  refine ax_ald (j := (i + 2)) (v := (X.2 (i + 2))) rfl (hh_s0 _ _ _) rfl (am_na (x := i) (y := 2) rfl rfl) (show (i + 2) < X.1 by omega) hX rfl ?_
  refine ax_call (vs := [.ref 285, .int (X.2 (i + 1)), .int (X.2 (i + 2))]) (rr := [.int x1]) rfl rfl rfl ?_
  refine bo_m hm1 (fun S2 L2 J2 => ?_)
  show am_ex 40 239 738 [some (.ref 0), some (.ref 5), some (.ref 285), some (.int (nI i))] [.int x1, .int x1] (am_hh X S2 L2) _
  refine ax_cmp_eq rfl (fun c1 => ?_) (fun c1 => False.elim (by first | exact c1 (rfl) | exact (rfl) c1))
  exact k S2 L2 J2
theorem law_19 {X : Nat × (Nat → Int32)} {S : Nat → Nat → Int32} {L : Nat → Int64} {i : Nat} {Q : Option Value → am_H → Prop} (hX : X.1 < 2 ^ 31) (hi : i + 5 < X.1) (J : JJ S) (k : ∀ S2 L2, JJ S2 → am_ex 40 239 1298 [some (.ref 0), some (.ref 5), some (.ref 285), some (.int (nI i))] [] (am_hh X S2 L2) Q) : am_ex 40 239 743 [some (.ref 0), some (.ref 5), some (.ref 285), some (.int (nI i))] [] (am_hh X S L) Q := by
  refine ax_s (pc' := 744) (st' := [.ref 5]) rfl rfl rfl rfl ?_
  refine ax_s (pc' := 745) (st' := [.ref 0, .ref 5]) rfl rfl rfl rfl ?_
  refine ax_s (pc' := 746) (st' := [.int (nI i), .ref 0, .ref 5]) rfl rfl rfl rfl ?_
  refine ax_s (pc' := 747) (st' := [.int 1, .int (nI i), .ref 0, .ref 5]) rfl rfl rfl rfl ?_
  refine ax_s (pc' := 748) (st' := [.int ((nI i) + 1), .ref 0, .ref 5]) rfl rfl rfl rfl ?_
  refine ax_ald (j := (i + 1)) (v := (X.2 (i + 1))) rfl (hh_s0 _ _ _) rfl (am_na (x := i) (y := 1) rfl rfl) (show (i + 1) < X.1 by omega) hX rfl ?_
  refine ax_call (vs := [.ref 5, .int (X.2 (i + 1))]) (rr := []) rfl rfl rfl ?_
  refine bo_k (bo_first J (X.2 (i + 1))) rfl (fun x1 S1 L1 hm1 => ?_)
  show am_ex 40 239 752 [some (.ref 0), some (.ref 5), some (.ref 285), some (.int (nI i))] [.int x1] (am_hh X S1 L1) _
  refine ax_s (pc' := 753) (st' := [.ref 285, .int x1]) rfl rfl rfl rfl ?_
  refine ax_s (pc' := 754) (st' := [.ref 0, .ref 285, .int x1]) rfl rfl rfl rfl ?_
  refine ax_s (pc' := 755) (st' := [.int (nI i), .ref 0, .ref 285, .int x1]) rfl rfl rfl rfl ?_
  refine ax_s (pc' := 756) (st' := [.int 1, .int (nI i), .ref 0, .ref 285, .int x1]) rfl rfl rfl rfl ?_
  refine ax_s (pc' := 757) (st' := [.int ((nI i) + 1), .ref 0, .ref 285, .int x1]) rfl rfl rfl rfl ?_
  refine ax_ald (j := (i + 1)) (v := (X.2 (i + 1))) rfl (hh_s0 _ _ _) rfl (am_na (x := i) (y := 1) rfl rfl) (show (i + 1) < X.1 by omega) hX rfl ?_
  refine ax_call (vs := [.ref 285, .int (X.2 (i + 1))]) (rr := [.int x1]) rfl rfl rfl ?_
  refine bo_m hm1 (fun S2 L2 J2 => ?_)
  show am_ex 40 239 761 [some (.ref 0), some (.ref 5), some (.ref 285), some (.int (nI i))] [.int x1, .int x1] (am_hh X S2 L2) _
  refine ax_cmp_eq rfl (fun c1 => ?_) (fun c1 => False.elim (by first | exact c1 (rfl) | exact (rfl) c1))
  exact k S2 L2 J2
theorem law_20 {X : Nat × (Nat → Int32)} {S : Nat → Nat → Int32} {L : Nat → Int64} {i : Nat} {Q : Option Value → am_H → Prop} (hX : X.1 < 2 ^ 31) (hi : i + 5 < X.1) (J : JJ S) (k : ∀ S2 L2, JJ S2 → am_ex 40 239 1298 [some (.ref 0), some (.ref 5), some (.ref 285), some (.int (nI i))] [] (am_hh X S2 L2) Q) : am_ex 40 239 766 [some (.ref 0), some (.ref 5), some (.ref 285), some (.int (nI i))] [] (am_hh X S L) Q := by
  refine ax_s (pc' := 767) (st' := [.ref 5]) rfl rfl rfl rfl ?_
  refine ax_s (pc' := 768) (st' := [.ref 0, .ref 5]) rfl rfl rfl rfl ?_
  refine ax_s (pc' := 769) (st' := [.int (nI i), .ref 0, .ref 5]) rfl rfl rfl rfl ?_
  refine ax_s (pc' := 770) (st' := [.int 1, .int (nI i), .ref 0, .ref 5]) rfl rfl rfl rfl ?_
  refine ax_s (pc' := 771) (st' := [.int ((nI i) + 1), .ref 0, .ref 5]) rfl rfl rfl rfl ?_
  refine ax_ald (j := (i + 1)) (v := (X.2 (i + 1))) rfl (hh_s0 _ _ _) rfl (am_na (x := i) (y := 1) rfl rfl) (show (i + 1) < X.1 by omega) hX rfl ?_
  refine ax_s (pc' := 773) (st' := [.ref 0, .int (X.2 (i + 1)), .ref 5]) rfl rfl rfl rfl ?_
  refine ax_s (pc' := 774) (st' := [.int (nI i), .ref 0, .int (X.2 (i + 1)), .ref 5]) rfl rfl rfl rfl ?_
  refine ax_s (pc' := 775) (st' := [.int 2, .int (nI i), .ref 0, .int (X.2 (i + 1)), .ref 5]) rfl rfl rfl rfl ?_
  refine ax_s (pc' := 776) (st' := [.int ((nI i) + 2), .ref 0, .int (X.2 (i + 1)), .ref 5]) rfl rfl rfl rfl ?_
  refine ax_ald (j := (i + 2)) (v := (X.2 (i + 2))) rfl (hh_s0 _ _ _) rfl (am_na (x := i) (y := 2) rfl rfl) (show (i + 2) < X.1 by omega) hX rfl ?_
  refine ax_call (vs := [.ref 5, .int (X.2 (i + 1)), .int (X.2 (i + 2))]) (rr := []) rfl rfl rfl ?_
  refine bo_k (bo_order J (X.2 (i + 1)) (X.2 (i + 2))) rfl (fun x1 S1 L1 hm1 => ?_)
  show am_ex 40 239 780 [some (.ref 0), some (.ref 5), some (.ref 285), some (.int (nI i))] [.int x1] (am_hh X S1 L1) _
  refine ax_s (pc' := 781) (st' := [.ref 285, .int x1]) rfl rfl rfl rfl ?_
  refine ax_s (pc' := 782) (st' := [.ref 0, .ref 285, .int x1]) rfl rfl rfl rfl ?_
  refine ax_s (pc' := 783) (st' := [.int (nI i), .ref 0, .ref 285, .int x1]) rfl rfl rfl rfl ?_
  refine ax_s (pc' := 784) (st' := [.int 1, .int (nI i), .ref 0, .ref 285, .int x1]) rfl rfl rfl rfl ?_
  refine ax_s (pc' := 785) (st' := [.int ((nI i) + 1), .ref 0, .ref 285, .int x1]) rfl rfl rfl rfl ?_
  refine ax_ald (j := (i + 1)) (v := (X.2 (i + 1))) rfl (hh_s0 _ _ _) rfl (am_na (x := i) (y := 1) rfl rfl) (show (i + 1) < X.1 by omega) hX rfl ?_
  refine ax_s (pc' := 787) (st' := [.ref 0, .int (X.2 (i + 1)), .ref 285, .int x1]) rfl rfl rfl rfl ?_
  refine ax_s (pc' := 788) (st' := [.int (nI i), .ref 0, .int (X.2 (i + 1)), .ref 285, .int x1]) rfl rfl rfl rfl ?_
  refine ax_s (pc' := 789) (st' := [.int 2, .int (nI i), .ref 0, .int (X.2 (i + 1)), .ref 285, .int x1]) rfl rfl rfl rfl ?_
  refine ax_s (pc' := 790) (st' := [.int ((nI i) + 2), .ref 0, .int (X.2 (i + 1)), .ref 285, .int x1]) rfl rfl rfl rfl ?_
  refine ax_ald (j := (i + 2)) (v := (X.2 (i + 2))) rfl (hh_s0 _ _ _) rfl (am_na (x := i) (y := 2) rfl rfl) (show (i + 2) < X.1 by omega) hX rfl ?_
  refine ax_call (vs := [.ref 285, .int (X.2 (i + 1)), .int (X.2 (i + 2))]) (rr := [.int x1]) rfl rfl rfl ?_
  refine bo_m hm1 (fun S2 L2 J2 => ?_)
  show am_ex 40 239 794 [some (.ref 0), some (.ref 5), some (.ref 285), some (.int (nI i))] [.int x1, .int x1] (am_hh X S2 L2) _
  refine ax_cmp_eq rfl (fun c1 => ?_) (fun c1 => False.elim (by first | exact c1 (rfl) | exact (rfl) c1))
  exact k S2 L2 J2
theorem law_21 {X : Nat × (Nat → Int32)} {S : Nat → Nat → Int32} {L : Nat → Int64} {i : Nat} {Q : Option Value → am_H → Prop} (hX : X.1 < 2 ^ 31) (hi : i + 5 < X.1) (J : JJ S) (k : ∀ S2 L2, JJ S2 → am_ex 40 239 1298 [some (.ref 0), some (.ref 5), some (.ref 285), some (.int (nI i))] [] (am_hh X S2 L2) Q) : am_ex 40 239 799 [some (.ref 0), some (.ref 5), some (.ref 285), some (.int (nI i))] [] (am_hh X S L) Q := by
  refine ax_s (pc' := 800) (st' := [.ref 5]) rfl rfl rfl rfl ?_
  refine ax_s (pc' := 801) (st' := [.ref 0, .ref 5]) rfl rfl rfl rfl ?_
  refine ax_s (pc' := 802) (st' := [.int (nI i), .ref 0, .ref 5]) rfl rfl rfl rfl ?_
  refine ax_s (pc' := 803) (st' := [.int 1, .int (nI i), .ref 0, .ref 5]) rfl rfl rfl rfl ?_
  refine ax_s (pc' := 804) (st' := [.int ((nI i) + 1), .ref 0, .ref 5]) rfl rfl rfl rfl ?_
  refine ax_ald (j := (i + 1)) (v := (X.2 (i + 1))) rfl (hh_s0 _ _ _) rfl (am_na (x := i) (y := 1) rfl rfl) (show (i + 1) < X.1 by omega) hX rfl ?_
  refine ax_s (pc' := 806) (st' := [.ref 0, .int (X.2 (i + 1)), .ref 5]) rfl rfl rfl rfl ?_
  refine ax_s (pc' := 807) (st' := [.int (nI i), .ref 0, .int (X.2 (i + 1)), .ref 5]) rfl rfl rfl rfl ?_
  refine ax_s (pc' := 808) (st' := [.int 2, .int (nI i), .ref 0, .int (X.2 (i + 1)), .ref 5]) rfl rfl rfl rfl ?_
  refine ax_s (pc' := 809) (st' := [.int ((nI i) + 2), .ref 0, .int (X.2 (i + 1)), .ref 5]) rfl rfl rfl rfl ?_
  refine ax_ald (j := (i + 2)) (v := (X.2 (i + 2))) rfl (hh_s0 _ _ _) rfl (am_na (x := i) (y := 2) rfl rfl) (show (i + 2) < X.1 by omega) hX rfl ?_
  refine ax_call (vs := [.ref 5, .int (X.2 (i + 1)), .int (X.2 (i + 2))]) (rr := []) rfl rfl rfl ?_
  refine bo_k (bo_load J (X.2 (i + 1)) (X.2 (i + 2))) rfl (fun x1 S1 L1 hm1 => ?_)
  show am_ex 40 239 813 [some (.ref 0), some (.ref 5), some (.ref 285), some (.int (nI i))] [.int x1] (am_hh X S1 L1) _
  refine ax_s (pc' := 814) (st' := [.ref 285, .int x1]) rfl rfl rfl rfl ?_
  refine ax_s (pc' := 815) (st' := [.ref 0, .ref 285, .int x1]) rfl rfl rfl rfl ?_
  refine ax_s (pc' := 816) (st' := [.int (nI i), .ref 0, .ref 285, .int x1]) rfl rfl rfl rfl ?_
  refine ax_s (pc' := 817) (st' := [.int 1, .int (nI i), .ref 0, .ref 285, .int x1]) rfl rfl rfl rfl ?_
  refine ax_s (pc' := 818) (st' := [.int ((nI i) + 1), .ref 0, .ref 285, .int x1]) rfl rfl rfl rfl ?_
  refine ax_ald (j := (i + 1)) (v := (X.2 (i + 1))) rfl (hh_s0 _ _ _) rfl (am_na (x := i) (y := 1) rfl rfl) (show (i + 1) < X.1 by omega) hX rfl ?_
  refine ax_s (pc' := 820) (st' := [.ref 0, .int (X.2 (i + 1)), .ref 285, .int x1]) rfl rfl rfl rfl ?_
  refine ax_s (pc' := 821) (st' := [.int (nI i), .ref 0, .int (X.2 (i + 1)), .ref 285, .int x1]) rfl rfl rfl rfl ?_
  refine ax_s (pc' := 822) (st' := [.int 2, .int (nI i), .ref 0, .int (X.2 (i + 1)), .ref 285, .int x1]) rfl rfl rfl rfl ?_
  refine ax_s (pc' := 823) (st' := [.int ((nI i) + 2), .ref 0, .int (X.2 (i + 1)), .ref 285, .int x1]) rfl rfl rfl rfl ?_
  refine ax_ald (j := (i + 2)) (v := (X.2 (i + 2))) rfl (hh_s0 _ _ _) rfl (am_na (x := i) (y := 2) rfl rfl) (show (i + 2) < X.1 by omega) hX rfl ?_
  refine ax_call (vs := [.ref 285, .int (X.2 (i + 1)), .int (X.2 (i + 2))]) (rr := [.int x1]) rfl rfl rfl ?_
  refine bo_m hm1 (fun S2 L2 J2 => ?_)
  show am_ex 40 239 827 [some (.ref 0), some (.ref 5), some (.ref 285), some (.int (nI i))] [.int x1, .int x1] (am_hh X S2 L2) _
  refine ax_cmp_eq rfl (fun c1 => ?_) (fun c1 => False.elim (by first | exact c1 (rfl) | exact (rfl) c1))
  exact k S2 L2 J2
theorem law_22 {X : Nat × (Nat → Int32)} {S : Nat → Nat → Int32} {L : Nat → Int64} {i : Nat} {Q : Option Value → am_H → Prop} (hX : X.1 < 2 ^ 31) (hi : i + 5 < X.1) (J : JJ S) (k : ∀ S2 L2, JJ S2 → am_ex 40 239 1298 [some (.ref 0), some (.ref 5), some (.ref 285), some (.int (nI i))] [] (am_hh X S2 L2) Q) : am_ex 40 239 832 [some (.ref 0), some (.ref 5), some (.ref 285), some (.int (nI i))] [] (am_hh X S L) Q := by
  refine ax_s (pc' := 833) (st' := [.ref 5]) rfl rfl rfl rfl ?_
  refine ax_s (pc' := 834) (st' := [.ref 0, .ref 5]) rfl rfl rfl rfl ?_
  refine ax_s (pc' := 835) (st' := [.int (nI i), .ref 0, .ref 5]) rfl rfl rfl rfl ?_
  refine ax_s (pc' := 836) (st' := [.int 1, .int (nI i), .ref 0, .ref 5]) rfl rfl rfl rfl ?_
  refine ax_s (pc' := 837) (st' := [.int ((nI i) + 1), .ref 0, .ref 5]) rfl rfl rfl rfl ?_
  refine ax_ald (j := (i + 1)) (v := (X.2 (i + 1))) rfl (hh_s0 _ _ _) rfl (am_na (x := i) (y := 1) rfl rfl) (show (i + 1) < X.1 by omega) hX rfl ?_
  refine ax_call (vs := [.ref 5, .int (X.2 (i + 1))]) (rr := []) rfl rfl rfl ?_
  refine bo_k (bo_bear J (X.2 (i + 1))) rfl (fun x1 S1 L1 hm1 => ?_)
  show am_ex 40 239 841 [some (.ref 0), some (.ref 5), some (.ref 285), some (.int (nI i))] [.int x1] (am_hh X S1 L1) _
  refine ax_s (pc' := 842) (st' := [.ref 285, .int x1]) rfl rfl rfl rfl ?_
  refine ax_s (pc' := 843) (st' := [.ref 0, .ref 285, .int x1]) rfl rfl rfl rfl ?_
  refine ax_s (pc' := 844) (st' := [.int (nI i), .ref 0, .ref 285, .int x1]) rfl rfl rfl rfl ?_
  refine ax_s (pc' := 845) (st' := [.int 1, .int (nI i), .ref 0, .ref 285, .int x1]) rfl rfl rfl rfl ?_
  refine ax_s (pc' := 846) (st' := [.int ((nI i) + 1), .ref 0, .ref 285, .int x1]) rfl rfl rfl rfl ?_
  refine ax_ald (j := (i + 1)) (v := (X.2 (i + 1))) rfl (hh_s0 _ _ _) rfl (am_na (x := i) (y := 1) rfl rfl) (show (i + 1) < X.1 by omega) hX rfl ?_
  refine ax_call (vs := [.ref 285, .int (X.2 (i + 1))]) (rr := [.int x1]) rfl rfl rfl ?_
  refine bo_m hm1 (fun S2 L2 J2 => ?_)
  show am_ex 40 239 850 [some (.ref 0), some (.ref 5), some (.ref 285), some (.int (nI i))] [.int x1, .int x1] (am_hh X S2 L2) _
  refine ax_cmp_eq rfl (fun c1 => ?_) (fun c1 => False.elim (by first | exact c1 (rfl) | exact (rfl) c1))
  exact k S2 L2 J2
theorem law_23 {X : Nat × (Nat → Int32)} {S : Nat → Nat → Int32} {L : Nat → Int64} {i : Nat} {Q : Option Value → am_H → Prop} (hX : X.1 < 2 ^ 31) (hi : i + 5 < X.1) (J : JJ S) (k : ∀ S2 L2, JJ S2 → am_ex 40 239 1298 [some (.ref 0), some (.ref 5), some (.ref 285), some (.int (nI i))] [] (am_hh X S2 L2) Q) : am_ex 40 239 855 [some (.ref 0), some (.ref 5), some (.ref 285), some (.int (nI i))] [] (am_hh X S L) Q := by
  refine ax_s (pc' := 856) (st' := [.ref 5]) rfl rfl rfl rfl ?_
  refine ax_s (pc' := 857) (st' := [.ref 0, .ref 5]) rfl rfl rfl rfl ?_
  refine ax_s (pc' := 858) (st' := [.int (nI i), .ref 0, .ref 5]) rfl rfl rfl rfl ?_
  refine ax_s (pc' := 859) (st' := [.int 1, .int (nI i), .ref 0, .ref 5]) rfl rfl rfl rfl ?_
  refine ax_s (pc' := 860) (st' := [.int ((nI i) + 1), .ref 0, .ref 5]) rfl rfl rfl rfl ?_
  refine ax_ald (j := (i + 1)) (v := (X.2 (i + 1))) rfl (hh_s0 _ _ _) rfl (am_na (x := i) (y := 1) rfl rfl) (show (i + 1) < X.1 by omega) hX rfl ?_
  refine ax_s (pc' := 862) (st' := [.ref 0, .int (X.2 (i + 1)), .ref 5]) rfl rfl rfl rfl ?_
  refine ax_s (pc' := 863) (st' := [.int (nI i), .ref 0, .int (X.2 (i + 1)), .ref 5]) rfl rfl rfl rfl ?_
  refine ax_s (pc' := 864) (st' := [.int 2, .int (nI i), .ref 0, .int (X.2 (i + 1)), .ref 5]) rfl rfl rfl rfl ?_
  refine ax_s (pc' := 865) (st' := [.int ((nI i) + 2), .ref 0, .int (X.2 (i + 1)), .ref 5]) rfl rfl rfl rfl ?_
  refine ax_ald (j := (i + 2)) (v := (X.2 (i + 2))) rfl (hh_s0 _ _ _) rfl (am_na (x := i) (y := 2) rfl rfl) (show (i + 2) < X.1 by omega) hX rfl ?_
  refine ax_call (vs := [.ref 5, .int (X.2 (i + 1)), .int (X.2 (i + 2))]) (rr := []) rfl rfl rfl ?_
  refine bo_k (bo_sets J (X.2 (i + 1)) (X.2 (i + 2))) rfl (fun x1 S1 L1 hm1 => ?_)
  show am_ex 40 239 869 [some (.ref 0), some (.ref 5), some (.ref 285), some (.int (nI i))] [.int x1] (am_hh X S1 L1) _
  refine ax_s (pc' := 870) (st' := [.ref 285, .int x1]) rfl rfl rfl rfl ?_
  refine ax_s (pc' := 871) (st' := [.ref 0, .ref 285, .int x1]) rfl rfl rfl rfl ?_
  refine ax_s (pc' := 872) (st' := [.int (nI i), .ref 0, .ref 285, .int x1]) rfl rfl rfl rfl ?_
  refine ax_s (pc' := 873) (st' := [.int 1, .int (nI i), .ref 0, .ref 285, .int x1]) rfl rfl rfl rfl ?_
  refine ax_s (pc' := 874) (st' := [.int ((nI i) + 1), .ref 0, .ref 285, .int x1]) rfl rfl rfl rfl ?_
  refine ax_ald (j := (i + 1)) (v := (X.2 (i + 1))) rfl (hh_s0 _ _ _) rfl (am_na (x := i) (y := 1) rfl rfl) (show (i + 1) < X.1 by omega) hX rfl ?_
  refine ax_s (pc' := 876) (st' := [.ref 0, .int (X.2 (i + 1)), .ref 285, .int x1]) rfl rfl rfl rfl ?_
  refine ax_s (pc' := 877) (st' := [.int (nI i), .ref 0, .int (X.2 (i + 1)), .ref 285, .int x1]) rfl rfl rfl rfl ?_
  refine ax_s (pc' := 878) (st' := [.int 2, .int (nI i), .ref 0, .int (X.2 (i + 1)), .ref 285, .int x1]) rfl rfl rfl rfl ?_
  refine ax_s (pc' := 879) (st' := [.int ((nI i) + 2), .ref 0, .int (X.2 (i + 1)), .ref 285, .int x1]) rfl rfl rfl rfl ?_
  refine ax_ald (j := (i + 2)) (v := (X.2 (i + 2))) rfl (hh_s0 _ _ _) rfl (am_na (x := i) (y := 2) rfl rfl) (show (i + 2) < X.1 by omega) hX rfl ?_
  refine ax_call (vs := [.ref 285, .int (X.2 (i + 1)), .int (X.2 (i + 2))]) (rr := [.int x1]) rfl rfl rfl ?_
  refine bo_m hm1 (fun S2 L2 J2 => ?_)
  show am_ex 40 239 883 [some (.ref 0), some (.ref 5), some (.ref 285), some (.int (nI i))] [.int x1, .int x1] (am_hh X S2 L2) _
  refine ax_cmp_eq rfl (fun c1 => ?_) (fun c1 => False.elim (by first | exact c1 (rfl) | exact (rfl) c1))
  exact k S2 L2 J2
theorem law_24 {X : Nat × (Nat → Int32)} {S : Nat → Nat → Int32} {L : Nat → Int64} {i : Nat} {Q : Option Value → am_H → Prop} (hX : X.1 < 2 ^ 31) (hi : i + 5 < X.1) (J : JJ S) (k : ∀ S2 L2, JJ S2 → am_ex 40 239 1298 [some (.ref 0), some (.ref 5), some (.ref 285), some (.int (nI i))] [] (am_hh X S2 L2) Q) : am_ex 40 239 888 [some (.ref 0), some (.ref 5), some (.ref 285), some (.int (nI i))] [] (am_hh X S L) Q := by
  refine ax_s (pc' := 889) (st' := [.ref 5]) rfl rfl rfl rfl ?_
  refine ax_s (pc' := 890) (st' := [.ref 0, .ref 5]) rfl rfl rfl rfl ?_
  refine ax_s (pc' := 891) (st' := [.int (nI i), .ref 0, .ref 5]) rfl rfl rfl rfl ?_
  refine ax_s (pc' := 892) (st' := [.int 1, .int (nI i), .ref 0, .ref 5]) rfl rfl rfl rfl ?_
  refine ax_s (pc' := 893) (st' := [.int ((nI i) + 1), .ref 0, .ref 5]) rfl rfl rfl rfl ?_
  refine ax_ald (j := (i + 1)) (v := (X.2 (i + 1))) rfl (hh_s0 _ _ _) rfl (am_na (x := i) (y := 1) rfl rfl) (show (i + 1) < X.1 by omega) hX rfl ?_
  refine ax_s (pc' := 895) (st' := [.ref 0, .int (X.2 (i + 1)), .ref 5]) rfl rfl rfl rfl ?_
  refine ax_s (pc' := 896) (st' := [.int (nI i), .ref 0, .int (X.2 (i + 1)), .ref 5]) rfl rfl rfl rfl ?_
  refine ax_s (pc' := 897) (st' := [.int 2, .int (nI i), .ref 0, .int (X.2 (i + 1)), .ref 5]) rfl rfl rfl rfl ?_
  refine ax_s (pc' := 898) (st' := [.int ((nI i) + 2), .ref 0, .int (X.2 (i + 1)), .ref 5]) rfl rfl rfl rfl ?_
  refine ax_ald (j := (i + 2)) (v := (X.2 (i + 2))) rfl (hh_s0 _ _ _) rfl (am_na (x := i) (y := 2) rfl rfl) (show (i + 2) < X.1 by omega) hX rfl ?_
  refine ax_call (vs := [.ref 5, .int (X.2 (i + 1)), .int (X.2 (i + 2))]) (rr := []) rfl rfl rfl ?_
  refine bo_k (bo_share J (X.2 (i + 1)) (X.2 (i + 2))) rfl (fun x1 S1 L1 hm1 => ?_)
  show am_ex 40 239 902 [some (.ref 0), some (.ref 5), some (.ref 285), some (.int (nI i))] [.int x1] (am_hh X S1 L1) _
  refine ax_s (pc' := 903) (st' := [.ref 285, .int x1]) rfl rfl rfl rfl ?_
  refine ax_s (pc' := 904) (st' := [.ref 0, .ref 285, .int x1]) rfl rfl rfl rfl ?_
  refine ax_s (pc' := 905) (st' := [.int (nI i), .ref 0, .ref 285, .int x1]) rfl rfl rfl rfl ?_
  refine ax_s (pc' := 906) (st' := [.int 1, .int (nI i), .ref 0, .ref 285, .int x1]) rfl rfl rfl rfl ?_
  refine ax_s (pc' := 907) (st' := [.int ((nI i) + 1), .ref 0, .ref 285, .int x1]) rfl rfl rfl rfl ?_
  refine ax_ald (j := (i + 1)) (v := (X.2 (i + 1))) rfl (hh_s0 _ _ _) rfl (am_na (x := i) (y := 1) rfl rfl) (show (i + 1) < X.1 by omega) hX rfl ?_
  refine ax_s (pc' := 909) (st' := [.ref 0, .int (X.2 (i + 1)), .ref 285, .int x1]) rfl rfl rfl rfl ?_
  refine ax_s (pc' := 910) (st' := [.int (nI i), .ref 0, .int (X.2 (i + 1)), .ref 285, .int x1]) rfl rfl rfl rfl ?_
  refine ax_s (pc' := 911) (st' := [.int 2, .int (nI i), .ref 0, .int (X.2 (i + 1)), .ref 285, .int x1]) rfl rfl rfl rfl ?_
  refine ax_s (pc' := 912) (st' := [.int ((nI i) + 2), .ref 0, .int (X.2 (i + 1)), .ref 285, .int x1]) rfl rfl rfl rfl ?_
  refine ax_ald (j := (i + 2)) (v := (X.2 (i + 2))) rfl (hh_s0 _ _ _) rfl (am_na (x := i) (y := 2) rfl rfl) (show (i + 2) < X.1 by omega) hX rfl ?_
  refine ax_call (vs := [.ref 285, .int (X.2 (i + 1)), .int (X.2 (i + 2))]) (rr := [.int x1]) rfl rfl rfl ?_
  refine bo_m hm1 (fun S2 L2 J2 => ?_)
  show am_ex 40 239 916 [some (.ref 0), some (.ref 5), some (.ref 285), some (.int (nI i))] [.int x1, .int x1] (am_hh X S2 L2) _
  refine ax_cmp_eq rfl (fun c1 => ?_) (fun c1 => False.elim (by first | exact c1 (rfl) | exact (rfl) c1))
  exact k S2 L2 J2
theorem law_25 {X : Nat × (Nat → Int32)} {S : Nat → Nat → Int32} {L : Nat → Int64} {i : Nat} {Q : Option Value → am_H → Prop} (hX : X.1 < 2 ^ 31) (hi : i + 5 < X.1) (J : JJ S) (k : ∀ S2 L2, JJ S2 → am_ex 40 239 1298 [some (.ref 0), some (.ref 5), some (.ref 285), some (.int (nI i))] [] (am_hh X S2 L2) Q) : am_ex 40 239 921 [some (.ref 0), some (.ref 5), some (.ref 285), some (.int (nI i))] [] (am_hh X S L) Q := by
  refine ax_s (pc' := 922) (st' := [.ref 5]) rfl rfl rfl rfl ?_
  refine ax_s (pc' := 923) (st' := [.ref 0, .ref 5]) rfl rfl rfl rfl ?_
  refine ax_s (pc' := 924) (st' := [.int (nI i), .ref 0, .ref 5]) rfl rfl rfl rfl ?_
  refine ax_s (pc' := 925) (st' := [.int 1, .int (nI i), .ref 0, .ref 5]) rfl rfl rfl rfl ?_
  refine ax_s (pc' := 926) (st' := [.int ((nI i) + 1), .ref 0, .ref 5]) rfl rfl rfl rfl ?_
  refine ax_ald (j := (i + 1)) (v := (X.2 (i + 1))) rfl (hh_s0 _ _ _) rfl (am_na (x := i) (y := 1) rfl rfl) (show (i + 1) < X.1 by omega) hX rfl ?_
  refine ax_s (pc' := 928) (st' := [.ref 0, .int (X.2 (i + 1)), .ref 5]) rfl rfl rfl rfl ?_
  refine ax_s (pc' := 929) (st' := [.int (nI i), .ref 0, .int (X.2 (i + 1)), .ref 5]) rfl rfl rfl rfl ?_
  refine ax_s (pc' := 930) (st' := [.int 2, .int (nI i), .ref 0, .int (X.2 (i + 1)), .ref 5]) rfl rfl rfl rfl ?_
  refine ax_s (pc' := 931) (st' := [.int ((nI i) + 2), .ref 0, .int (X.2 (i + 1)), .ref 5]) rfl rfl rfl rfl ?_
  refine ax_ald (j := (i + 2)) (v := (X.2 (i + 2))) rfl (hh_s0 _ _ _) rfl (am_na (x := i) (y := 2) rfl rfl) (show (i + 2) < X.1 by omega) hX rfl ?_
  refine ax_call (vs := [.ref 5, .int (X.2 (i + 1)), .int (X.2 (i + 2))]) (rr := []) rfl rfl rfl ?_
  refine bo_k (bo_byTurns J (X.2 (i + 1)) (X.2 (i + 2))) rfl (fun x1 S1 L1 hm1 => ?_)
  show am_ex 40 239 935 [some (.ref 0), some (.ref 5), some (.ref 285), some (.int (nI i))] [.int x1] (am_hh X S1 L1) _
  refine ax_s (pc' := 936) (st' := [.ref 285, .int x1]) rfl rfl rfl rfl ?_
  refine ax_s (pc' := 937) (st' := [.ref 0, .ref 285, .int x1]) rfl rfl rfl rfl ?_
  refine ax_s (pc' := 938) (st' := [.int (nI i), .ref 0, .ref 285, .int x1]) rfl rfl rfl rfl ?_
  refine ax_s (pc' := 939) (st' := [.int 1, .int (nI i), .ref 0, .ref 285, .int x1]) rfl rfl rfl rfl ?_
  refine ax_s (pc' := 940) (st' := [.int ((nI i) + 1), .ref 0, .ref 285, .int x1]) rfl rfl rfl rfl ?_
  refine ax_ald (j := (i + 1)) (v := (X.2 (i + 1))) rfl (hh_s0 _ _ _) rfl (am_na (x := i) (y := 1) rfl rfl) (show (i + 1) < X.1 by omega) hX rfl ?_
  refine ax_s (pc' := 942) (st' := [.ref 0, .int (X.2 (i + 1)), .ref 285, .int x1]) rfl rfl rfl rfl ?_
  refine ax_s (pc' := 943) (st' := [.int (nI i), .ref 0, .int (X.2 (i + 1)), .ref 285, .int x1]) rfl rfl rfl rfl ?_
  refine ax_s (pc' := 944) (st' := [.int 2, .int (nI i), .ref 0, .int (X.2 (i + 1)), .ref 285, .int x1]) rfl rfl rfl rfl ?_
  refine ax_s (pc' := 945) (st' := [.int ((nI i) + 2), .ref 0, .int (X.2 (i + 1)), .ref 285, .int x1]) rfl rfl rfl rfl ?_
  refine ax_ald (j := (i + 2)) (v := (X.2 (i + 2))) rfl (hh_s0 _ _ _) rfl (am_na (x := i) (y := 2) rfl rfl) (show (i + 2) < X.1 by omega) hX rfl ?_
  refine ax_call (vs := [.ref 285, .int (X.2 (i + 1)), .int (X.2 (i + 2))]) (rr := [.int x1]) rfl rfl rfl ?_
  refine bo_m hm1 (fun S2 L2 J2 => ?_)
  show am_ex 40 239 949 [some (.ref 0), some (.ref 5), some (.ref 285), some (.int (nI i))] [.int x1, .int x1] (am_hh X S2 L2) _
  refine ax_cmp_eq rfl (fun c1 => ?_) (fun c1 => False.elim (by first | exact c1 (rfl) | exact (rfl) c1))
  exact k S2 L2 J2
theorem law_26 {X : Nat × (Nat → Int32)} {S : Nat → Nat → Int32} {L : Nat → Int64} {i : Nat} {Q : Option Value → am_H → Prop} (hX : X.1 < 2 ^ 31) (hi : i + 5 < X.1) (J : JJ S) (k : ∀ S2 L2, JJ S2 → am_ex 40 239 1298 [some (.ref 0), some (.ref 5), some (.ref 285), some (.int (nI i))] [] (am_hh X S2 L2) Q) : am_ex 40 239 954 [some (.ref 0), some (.ref 5), some (.ref 285), some (.int (nI i))] [] (am_hh X S L) Q := by
  refine ax_s (pc' := 955) (st' := [.ref 5]) rfl rfl rfl rfl ?_
  refine ax_s (pc' := 956) (st' := [.ref 0, .ref 5]) rfl rfl rfl rfl ?_
  refine ax_s (pc' := 957) (st' := [.int (nI i), .ref 0, .ref 5]) rfl rfl rfl rfl ?_
  refine ax_s (pc' := 958) (st' := [.int 1, .int (nI i), .ref 0, .ref 5]) rfl rfl rfl rfl ?_
  refine ax_s (pc' := 959) (st' := [.int ((nI i) + 1), .ref 0, .ref 5]) rfl rfl rfl rfl ?_
  refine ax_ald (j := (i + 1)) (v := (X.2 (i + 1))) rfl (hh_s0 _ _ _) rfl (am_na (x := i) (y := 1) rfl rfl) (show (i + 1) < X.1 by omega) hX rfl ?_
  refine ax_s (pc' := 961) (st' := [.ref 0, .int (X.2 (i + 1)), .ref 5]) rfl rfl rfl rfl ?_
  refine ax_s (pc' := 962) (st' := [.int (nI i), .ref 0, .int (X.2 (i + 1)), .ref 5]) rfl rfl rfl rfl ?_
  refine ax_s (pc' := 963) (st' := [.int 2, .int (nI i), .ref 0, .int (X.2 (i + 1)), .ref 5]) rfl rfl rfl rfl ?_
  refine ax_s (pc' := 964) (st' := [.int ((nI i) + 2), .ref 0, .int (X.2 (i + 1)), .ref 5]) rfl rfl rfl rfl ?_
  refine ax_ald (j := (i + 2)) (v := (X.2 (i + 2))) rfl (hh_s0 _ _ _) rfl (am_na (x := i) (y := 2) rfl rfl) (show (i + 2) < X.1 by omega) hX rfl ?_
  refine ax_s (pc' := 966) (st' := [.ref 0, .int (X.2 (i + 2)), .int (X.2 (i + 1)), .ref 5]) rfl rfl rfl rfl ?_
  refine ax_s (pc' := 967) (st' := [.int (nI i), .ref 0, .int (X.2 (i + 2)), .int (X.2 (i + 1)), .ref 5]) rfl rfl rfl rfl ?_
  refine ax_s (pc' := 968) (st' := [.int 3, .int (nI i), .ref 0, .int (X.2 (i + 2)), .int (X.2 (i + 1)), .ref 5]) rfl rfl rfl rfl ?_
  refine ax_s (pc' := 969) (st' := [.int ((nI i) + 3), .ref 0, .int (X.2 (i + 2)), .int (X.2 (i + 1)), .ref 5]) rfl rfl rfl rfl ?_
  refine ax_ald (j := (i + 3)) (v := (X.2 (i + 3))) rfl (hh_s0 _ _ _) rfl (am_na (x := i) (y := 3) rfl rfl) (show (i + 3) < X.1 by omega) hX rfl ?_
  refine ax_s (pc' := 971) (st' := [.ref 0, .int (X.2 (i + 3)), .int (X.2 (i + 2)), .int (X.2 (i + 1)), .ref 5]) rfl rfl rfl rfl ?_
  refine ax_s (pc' := 972) (st' := [.int (nI i), .ref 0, .int (X.2 (i + 3)), .int (X.2 (i + 2)), .int (X.2 (i + 1)), .ref 5]) rfl rfl rfl rfl ?_
  refine ax_s (pc' := 973) (st' := [.int 4, .int (nI i), .ref 0, .int (X.2 (i + 3)), .int (X.2 (i + 2)), .int (X.2 (i + 1)), .ref 5]) rfl rfl rfl rfl ?_
  refine ax_s (pc' := 974) (st' := [.int ((nI i) + 4), .ref 0, .int (X.2 (i + 3)), .int (X.2 (i + 2)), .int (X.2 (i + 1)), .ref 5]) rfl rfl rfl rfl ?_
  refine ax_ald (j := (i + 4)) (v := (X.2 (i + 4))) rfl (hh_s0 _ _ _) rfl (am_na (x := i) (y := 4) rfl rfl) (show (i + 4) < X.1 by omega) hX rfl ?_
  refine ax_s (pc' := 976) (st' := [.ref 0, .int (X.2 (i + 4)), .int (X.2 (i + 3)), .int (X.2 (i + 2)), .int (X.2 (i + 1)), .ref 5]) rfl rfl rfl rfl ?_
  refine ax_s (pc' := 977) (st' := [.int (nI i), .ref 0, .int (X.2 (i + 4)), .int (X.2 (i + 3)), .int (X.2 (i + 2)), .int (X.2 (i + 1)), .ref 5]) rfl rfl rfl rfl ?_
  refine ax_s (pc' := 978) (st' := [.int 5, .int (nI i), .ref 0, .int (X.2 (i + 4)), .int (X.2 (i + 3)), .int (X.2 (i + 2)), .int (X.2 (i + 1)), .ref 5]) rfl rfl rfl rfl ?_
  refine ax_s (pc' := 979) (st' := [.int ((nI i) + 5), .ref 0, .int (X.2 (i + 4)), .int (X.2 (i + 3)), .int (X.2 (i + 2)), .int (X.2 (i + 1)), .ref 5]) rfl rfl rfl rfl ?_
  refine ax_ald (j := (i + 5)) (v := (X.2 (i + 5))) rfl (hh_s0 _ _ _) rfl (am_na (x := i) (y := 5) rfl rfl) (show (i + 5) < X.1 by omega) hX rfl ?_
  refine ax_call (vs := [.ref 5, .int (X.2 (i + 1)), .int (X.2 (i + 2)), .int (X.2 (i + 3)), .int (X.2 (i + 4)), .int (X.2 (i + 5))]) (rr := []) rfl rfl rfl ?_
  refine bo_k (bo_who J (X.2 (i + 1)) (X.2 (i + 2)) (X.2 (i + 3)) (X.2 (i + 4)) (X.2 (i + 5))) rfl (fun x1 S1 L1 hm1 => ?_)
  show am_ex 40 239 983 [some (.ref 0), some (.ref 5), some (.ref 285), some (.int (nI i))] [.int x1] (am_hh X S1 L1) _
  refine ax_s (pc' := 984) (st' := [.ref 285, .int x1]) rfl rfl rfl rfl ?_
  refine ax_s (pc' := 985) (st' := [.ref 0, .ref 285, .int x1]) rfl rfl rfl rfl ?_
  refine ax_s (pc' := 986) (st' := [.int (nI i), .ref 0, .ref 285, .int x1]) rfl rfl rfl rfl ?_
  refine ax_s (pc' := 987) (st' := [.int 1, .int (nI i), .ref 0, .ref 285, .int x1]) rfl rfl rfl rfl ?_
  refine ax_s (pc' := 988) (st' := [.int ((nI i) + 1), .ref 0, .ref 285, .int x1]) rfl rfl rfl rfl ?_
  refine ax_ald (j := (i + 1)) (v := (X.2 (i + 1))) rfl (hh_s0 _ _ _) rfl (am_na (x := i) (y := 1) rfl rfl) (show (i + 1) < X.1 by omega) hX rfl ?_
  refine ax_s (pc' := 990) (st' := [.ref 0, .int (X.2 (i + 1)), .ref 285, .int x1]) rfl rfl rfl rfl ?_
  refine ax_s (pc' := 991) (st' := [.int (nI i), .ref 0, .int (X.2 (i + 1)), .ref 285, .int x1]) rfl rfl rfl rfl ?_
  refine ax_s (pc' := 992) (st' := [.int 2, .int (nI i), .ref 0, .int (X.2 (i + 1)), .ref 285, .int x1]) rfl rfl rfl rfl ?_
  refine ax_s (pc' := 993) (st' := [.int ((nI i) + 2), .ref 0, .int (X.2 (i + 1)), .ref 285, .int x1]) rfl rfl rfl rfl ?_
  refine ax_ald (j := (i + 2)) (v := (X.2 (i + 2))) rfl (hh_s0 _ _ _) rfl (am_na (x := i) (y := 2) rfl rfl) (show (i + 2) < X.1 by omega) hX rfl ?_
  refine ax_s (pc' := 995) (st' := [.ref 0, .int (X.2 (i + 2)), .int (X.2 (i + 1)), .ref 285, .int x1]) rfl rfl rfl rfl ?_
  refine ax_s (pc' := 996) (st' := [.int (nI i), .ref 0, .int (X.2 (i + 2)), .int (X.2 (i + 1)), .ref 285, .int x1]) rfl rfl rfl rfl ?_
  refine ax_s (pc' := 997) (st' := [.int 3, .int (nI i), .ref 0, .int (X.2 (i + 2)), .int (X.2 (i + 1)), .ref 285, .int x1]) rfl rfl rfl rfl ?_
  refine ax_s (pc' := 998) (st' := [.int ((nI i) + 3), .ref 0, .int (X.2 (i + 2)), .int (X.2 (i + 1)), .ref 285, .int x1]) rfl rfl rfl rfl ?_
  refine ax_ald (j := (i + 3)) (v := (X.2 (i + 3))) rfl (hh_s0 _ _ _) rfl (am_na (x := i) (y := 3) rfl rfl) (show (i + 3) < X.1 by omega) hX rfl ?_
  refine ax_s (pc' := 1000) (st' := [.ref 0, .int (X.2 (i + 3)), .int (X.2 (i + 2)), .int (X.2 (i + 1)), .ref 285, .int x1]) rfl rfl rfl rfl ?_
  refine ax_s (pc' := 1001) (st' := [.int (nI i), .ref 0, .int (X.2 (i + 3)), .int (X.2 (i + 2)), .int (X.2 (i + 1)), .ref 285, .int x1]) rfl rfl rfl rfl ?_
  refine ax_s (pc' := 1002) (st' := [.int 4, .int (nI i), .ref 0, .int (X.2 (i + 3)), .int (X.2 (i + 2)), .int (X.2 (i + 1)), .ref 285, .int x1]) rfl rfl rfl rfl ?_
  refine ax_s (pc' := 1003) (st' := [.int ((nI i) + 4), .ref 0, .int (X.2 (i + 3)), .int (X.2 (i + 2)), .int (X.2 (i + 1)), .ref 285, .int x1]) rfl rfl rfl rfl ?_
  refine ax_ald (j := (i + 4)) (v := (X.2 (i + 4))) rfl (hh_s0 _ _ _) rfl (am_na (x := i) (y := 4) rfl rfl) (show (i + 4) < X.1 by omega) hX rfl ?_
  refine ax_s (pc' := 1005) (st' := [.ref 0, .int (X.2 (i + 4)), .int (X.2 (i + 3)), .int (X.2 (i + 2)), .int (X.2 (i + 1)), .ref 285, .int x1]) rfl rfl rfl rfl ?_
  refine ax_s (pc' := 1006) (st' := [.int (nI i), .ref 0, .int (X.2 (i + 4)), .int (X.2 (i + 3)), .int (X.2 (i + 2)), .int (X.2 (i + 1)), .ref 285, .int x1]) rfl rfl rfl rfl ?_
  refine ax_s (pc' := 1007) (st' := [.int 5, .int (nI i), .ref 0, .int (X.2 (i + 4)), .int (X.2 (i + 3)), .int (X.2 (i + 2)), .int (X.2 (i + 1)), .ref 285, .int x1]) rfl rfl rfl rfl ?_
  refine ax_s (pc' := 1008) (st' := [.int ((nI i) + 5), .ref 0, .int (X.2 (i + 4)), .int (X.2 (i + 3)), .int (X.2 (i + 2)), .int (X.2 (i + 1)), .ref 285, .int x1]) rfl rfl rfl rfl ?_
  refine ax_ald (j := (i + 5)) (v := (X.2 (i + 5))) rfl (hh_s0 _ _ _) rfl (am_na (x := i) (y := 5) rfl rfl) (show (i + 5) < X.1 by omega) hX rfl ?_
  refine ax_call (vs := [.ref 285, .int (X.2 (i + 1)), .int (X.2 (i + 2)), .int (X.2 (i + 3)), .int (X.2 (i + 4)), .int (X.2 (i + 5))]) (rr := [.int x1]) rfl rfl rfl ?_
  refine bo_m hm1 (fun S2 L2 J2 => ?_)
  show am_ex 40 239 1012 [some (.ref 0), some (.ref 5), some (.ref 285), some (.int (nI i))] [.int x1, .int x1] (am_hh X S2 L2) _
  refine ax_cmp_eq rfl (fun c1 => ?_) (fun c1 => False.elim (by first | exact c1 (rfl) | exact (rfl) c1))
  exact k S2 L2 J2
theorem law_27 {X : Nat × (Nat → Int32)} {S : Nat → Nat → Int32} {L : Nat → Int64} {i : Nat} {Q : Option Value → am_H → Prop} (hX : X.1 < 2 ^ 31) (hi : i + 5 < X.1) (J : JJ S) (k : ∀ S2 L2, JJ S2 → am_ex 40 239 1298 [some (.ref 0), some (.ref 5), some (.ref 285), some (.int (nI i))] [] (am_hh X S2 L2) Q) : am_ex 40 239 1017 [some (.ref 0), some (.ref 5), some (.ref 285), some (.int (nI i))] [] (am_hh X S L) Q := by
  refine ax_s (pc' := 1018) (st' := [.ref 5]) rfl rfl rfl rfl ?_
  refine ax_s (pc' := 1019) (st' := [.ref 0, .ref 5]) rfl rfl rfl rfl ?_
  refine ax_s (pc' := 1020) (st' := [.int (nI i), .ref 0, .ref 5]) rfl rfl rfl rfl ?_
  refine ax_s (pc' := 1021) (st' := [.int 1, .int (nI i), .ref 0, .ref 5]) rfl rfl rfl rfl ?_
  refine ax_s (pc' := 1022) (st' := [.int ((nI i) + 1), .ref 0, .ref 5]) rfl rfl rfl rfl ?_
  refine ax_ald (j := (i + 1)) (v := (X.2 (i + 1))) rfl (hh_s0 _ _ _) rfl (am_na (x := i) (y := 1) rfl rfl) (show (i + 1) < X.1 by omega) hX rfl ?_
  refine ax_s (pc' := 1024) (st' := [.ref 0, .int (X.2 (i + 1)), .ref 5]) rfl rfl rfl rfl ?_
  refine ax_s (pc' := 1025) (st' := [.int (nI i), .ref 0, .int (X.2 (i + 1)), .ref 5]) rfl rfl rfl rfl ?_
  refine ax_s (pc' := 1026) (st' := [.int 2, .int (nI i), .ref 0, .int (X.2 (i + 1)), .ref 5]) rfl rfl rfl rfl ?_
  refine ax_s (pc' := 1027) (st' := [.int ((nI i) + 2), .ref 0, .int (X.2 (i + 1)), .ref 5]) rfl rfl rfl rfl ?_
  refine ax_ald (j := (i + 2)) (v := (X.2 (i + 2))) rfl (hh_s0 _ _ _) rfl (am_na (x := i) (y := 2) rfl rfl) (show (i + 2) < X.1 by omega) hX rfl ?_
  refine ax_s (pc' := 1029) (st' := [.ref 0, .int (X.2 (i + 2)), .int (X.2 (i + 1)), .ref 5]) rfl rfl rfl rfl ?_
  refine ax_s (pc' := 1030) (st' := [.int (nI i), .ref 0, .int (X.2 (i + 2)), .int (X.2 (i + 1)), .ref 5]) rfl rfl rfl rfl ?_
  refine ax_s (pc' := 1031) (st' := [.int 3, .int (nI i), .ref 0, .int (X.2 (i + 2)), .int (X.2 (i + 1)), .ref 5]) rfl rfl rfl rfl ?_
  refine ax_s (pc' := 1032) (st' := [.int ((nI i) + 3), .ref 0, .int (X.2 (i + 2)), .int (X.2 (i + 1)), .ref 5]) rfl rfl rfl rfl ?_
  refine ax_ald (j := (i + 3)) (v := (X.2 (i + 3))) rfl (hh_s0 _ _ _) rfl (am_na (x := i) (y := 3) rfl rfl) (show (i + 3) < X.1 by omega) hX rfl ?_
  refine ax_call (vs := [.ref 5, .int (X.2 (i + 1)), .int (X.2 (i + 2)), .int (X.2 (i + 3))]) (rr := []) rfl rfl rfl ?_
  refine bo_kl (bo_away J (X.2 (i + 1)) (X.2 (i + 2)) (X.2 (i + 3))) rfl (fun x1 S1 L1 hm1 => ?_)
  show am_ex 40 239 1036 [some (.ref 0), some (.ref 5), some (.ref 285), some (.int (nI i))] [.long x1] (am_hh X S1 L1) _
  refine ax_s (pc' := 1037) (st' := [.ref 285, .long x1]) rfl rfl rfl rfl ?_
  refine ax_s (pc' := 1038) (st' := [.ref 0, .ref 285, .long x1]) rfl rfl rfl rfl ?_
  refine ax_s (pc' := 1039) (st' := [.int (nI i), .ref 0, .ref 285, .long x1]) rfl rfl rfl rfl ?_
  refine ax_s (pc' := 1040) (st' := [.int 1, .int (nI i), .ref 0, .ref 285, .long x1]) rfl rfl rfl rfl ?_
  refine ax_s (pc' := 1041) (st' := [.int ((nI i) + 1), .ref 0, .ref 285, .long x1]) rfl rfl rfl rfl ?_
  refine ax_ald (j := (i + 1)) (v := (X.2 (i + 1))) rfl (hh_s0 _ _ _) rfl (am_na (x := i) (y := 1) rfl rfl) (show (i + 1) < X.1 by omega) hX rfl ?_
  refine ax_s (pc' := 1043) (st' := [.ref 0, .int (X.2 (i + 1)), .ref 285, .long x1]) rfl rfl rfl rfl ?_
  refine ax_s (pc' := 1044) (st' := [.int (nI i), .ref 0, .int (X.2 (i + 1)), .ref 285, .long x1]) rfl rfl rfl rfl ?_
  refine ax_s (pc' := 1045) (st' := [.int 2, .int (nI i), .ref 0, .int (X.2 (i + 1)), .ref 285, .long x1]) rfl rfl rfl rfl ?_
  refine ax_s (pc' := 1046) (st' := [.int ((nI i) + 2), .ref 0, .int (X.2 (i + 1)), .ref 285, .long x1]) rfl rfl rfl rfl ?_
  refine ax_ald (j := (i + 2)) (v := (X.2 (i + 2))) rfl (hh_s0 _ _ _) rfl (am_na (x := i) (y := 2) rfl rfl) (show (i + 2) < X.1 by omega) hX rfl ?_
  refine ax_s (pc' := 1048) (st' := [.ref 0, .int (X.2 (i + 2)), .int (X.2 (i + 1)), .ref 285, .long x1]) rfl rfl rfl rfl ?_
  refine ax_s (pc' := 1049) (st' := [.int (nI i), .ref 0, .int (X.2 (i + 2)), .int (X.2 (i + 1)), .ref 285, .long x1]) rfl rfl rfl rfl ?_
  refine ax_s (pc' := 1050) (st' := [.int 3, .int (nI i), .ref 0, .int (X.2 (i + 2)), .int (X.2 (i + 1)), .ref 285, .long x1]) rfl rfl rfl rfl ?_
  refine ax_s (pc' := 1051) (st' := [.int ((nI i) + 3), .ref 0, .int (X.2 (i + 2)), .int (X.2 (i + 1)), .ref 285, .long x1]) rfl rfl rfl rfl ?_
  refine ax_ald (j := (i + 3)) (v := (X.2 (i + 3))) rfl (hh_s0 _ _ _) rfl (am_na (x := i) (y := 3) rfl rfl) (show (i + 3) < X.1 by omega) hX rfl ?_
  refine ax_call (vs := [.ref 285, .int (X.2 (i + 1)), .int (X.2 (i + 2)), .int (X.2 (i + 3))]) (rr := [.long x1]) rfl rfl rfl ?_
  refine bo_ml hm1 (fun S2 L2 J2 => ?_)
  show am_ex 40 239 1055 [some (.ref 0), some (.ref 5), some (.ref 285), some (.int (nI i))] [.long x1, .long x1] (am_hh X S2 L2) _
  refine ax_s (pc' := 1056) (st' := [.int (lg_cmp x1 x1)]) rfl rfl rfl rfl ?_
  refine ax_if_eq rfl (fun c1 => ?_) (fun c1 => False.elim (by first | exact c1 (lgc_r x1) | exact (lgc_r x1) c1))
  exact k S2 L2 J2
theorem law_28 {X : Nat × (Nat → Int32)} {S : Nat → Nat → Int32} {L : Nat → Int64} {i : Nat} {Q : Option Value → am_H → Prop} (hX : X.1 < 2 ^ 31) (hi : i + 5 < X.1) (J : JJ S) (k : ∀ S2 L2, JJ S2 → am_ex 40 239 1298 [some (.ref 0), some (.ref 5), some (.ref 285), some (.int (nI i))] [] (am_hh X S2 L2) Q) : am_ex 40 239 1061 [some (.ref 0), some (.ref 5), some (.ref 285), some (.int (nI i))] [] (am_hh X S L) Q := by
  refine ax_s (pc' := 1062) (st' := [.ref 5]) rfl rfl rfl rfl ?_
  refine ax_s (pc' := 1063) (st' := [.ref 0, .ref 5]) rfl rfl rfl rfl ?_
  refine ax_s (pc' := 1064) (st' := [.int (nI i), .ref 0, .ref 5]) rfl rfl rfl rfl ?_
  refine ax_s (pc' := 1065) (st' := [.int 1, .int (nI i), .ref 0, .ref 5]) rfl rfl rfl rfl ?_
  refine ax_s (pc' := 1066) (st' := [.int ((nI i) + 1), .ref 0, .ref 5]) rfl rfl rfl rfl ?_
  refine ax_ald (j := (i + 1)) (v := (X.2 (i + 1))) rfl (hh_s0 _ _ _) rfl (am_na (x := i) (y := 1) rfl rfl) (show (i + 1) < X.1 by omega) hX rfl ?_
  refine ax_s (pc' := 1068) (st' := [.ref 0, .int (X.2 (i + 1)), .ref 5]) rfl rfl rfl rfl ?_
  refine ax_s (pc' := 1069) (st' := [.int (nI i), .ref 0, .int (X.2 (i + 1)), .ref 5]) rfl rfl rfl rfl ?_
  refine ax_s (pc' := 1070) (st' := [.int 2, .int (nI i), .ref 0, .int (X.2 (i + 1)), .ref 5]) rfl rfl rfl rfl ?_
  refine ax_s (pc' := 1071) (st' := [.int ((nI i) + 2), .ref 0, .int (X.2 (i + 1)), .ref 5]) rfl rfl rfl rfl ?_
  refine ax_ald (j := (i + 2)) (v := (X.2 (i + 2))) rfl (hh_s0 _ _ _) rfl (am_na (x := i) (y := 2) rfl rfl) (show (i + 2) < X.1 by omega) hX rfl ?_
  refine ax_s (pc' := 1073) (st' := [.ref 0, .int (X.2 (i + 2)), .int (X.2 (i + 1)), .ref 5]) rfl rfl rfl rfl ?_
  refine ax_s (pc' := 1074) (st' := [.int (nI i), .ref 0, .int (X.2 (i + 2)), .int (X.2 (i + 1)), .ref 5]) rfl rfl rfl rfl ?_
  refine ax_s (pc' := 1075) (st' := [.int 3, .int (nI i), .ref 0, .int (X.2 (i + 2)), .int (X.2 (i + 1)), .ref 5]) rfl rfl rfl rfl ?_
  refine ax_s (pc' := 1076) (st' := [.int ((nI i) + 3), .ref 0, .int (X.2 (i + 2)), .int (X.2 (i + 1)), .ref 5]) rfl rfl rfl rfl ?_
  refine ax_ald (j := (i + 3)) (v := (X.2 (i + 3))) rfl (hh_s0 _ _ _) rfl (am_na (x := i) (y := 3) rfl rfl) (show (i + 3) < X.1 by omega) hX rfl ?_
  refine ax_call (vs := [.ref 5, .int (X.2 (i + 1)), .int (X.2 (i + 2)), .int (X.2 (i + 3))]) (rr := []) rfl rfl rfl ?_
  refine bo_k (bo_drawn J (X.2 (i + 1)) (X.2 (i + 2)) (X.2 (i + 3))) rfl (fun x1 S1 L1 hm1 => ?_)
  show am_ex 40 239 1080 [some (.ref 0), some (.ref 5), some (.ref 285), some (.int (nI i))] [.int x1] (am_hh X S1 L1) _
  refine ax_s (pc' := 1081) (st' := [.ref 285, .int x1]) rfl rfl rfl rfl ?_
  refine ax_s (pc' := 1082) (st' := [.ref 0, .ref 285, .int x1]) rfl rfl rfl rfl ?_
  refine ax_s (pc' := 1083) (st' := [.int (nI i), .ref 0, .ref 285, .int x1]) rfl rfl rfl rfl ?_
  refine ax_s (pc' := 1084) (st' := [.int 1, .int (nI i), .ref 0, .ref 285, .int x1]) rfl rfl rfl rfl ?_
  refine ax_s (pc' := 1085) (st' := [.int ((nI i) + 1), .ref 0, .ref 285, .int x1]) rfl rfl rfl rfl ?_
  refine ax_ald (j := (i + 1)) (v := (X.2 (i + 1))) rfl (hh_s0 _ _ _) rfl (am_na (x := i) (y := 1) rfl rfl) (show (i + 1) < X.1 by omega) hX rfl ?_
  refine ax_s (pc' := 1087) (st' := [.ref 0, .int (X.2 (i + 1)), .ref 285, .int x1]) rfl rfl rfl rfl ?_
  refine ax_s (pc' := 1088) (st' := [.int (nI i), .ref 0, .int (X.2 (i + 1)), .ref 285, .int x1]) rfl rfl rfl rfl ?_
  refine ax_s (pc' := 1089) (st' := [.int 2, .int (nI i), .ref 0, .int (X.2 (i + 1)), .ref 285, .int x1]) rfl rfl rfl rfl ?_
  refine ax_s (pc' := 1090) (st' := [.int ((nI i) + 2), .ref 0, .int (X.2 (i + 1)), .ref 285, .int x1]) rfl rfl rfl rfl ?_
  refine ax_ald (j := (i + 2)) (v := (X.2 (i + 2))) rfl (hh_s0 _ _ _) rfl (am_na (x := i) (y := 2) rfl rfl) (show (i + 2) < X.1 by omega) hX rfl ?_
  refine ax_s (pc' := 1092) (st' := [.ref 0, .int (X.2 (i + 2)), .int (X.2 (i + 1)), .ref 285, .int x1]) rfl rfl rfl rfl ?_
  refine ax_s (pc' := 1093) (st' := [.int (nI i), .ref 0, .int (X.2 (i + 2)), .int (X.2 (i + 1)), .ref 285, .int x1]) rfl rfl rfl rfl ?_
  refine ax_s (pc' := 1094) (st' := [.int 3, .int (nI i), .ref 0, .int (X.2 (i + 2)), .int (X.2 (i + 1)), .ref 285, .int x1]) rfl rfl rfl rfl ?_
  refine ax_s (pc' := 1095) (st' := [.int ((nI i) + 3), .ref 0, .int (X.2 (i + 2)), .int (X.2 (i + 1)), .ref 285, .int x1]) rfl rfl rfl rfl ?_
  refine ax_ald (j := (i + 3)) (v := (X.2 (i + 3))) rfl (hh_s0 _ _ _) rfl (am_na (x := i) (y := 3) rfl rfl) (show (i + 3) < X.1 by omega) hX rfl ?_
  refine ax_call (vs := [.ref 285, .int (X.2 (i + 1)), .int (X.2 (i + 2)), .int (X.2 (i + 3))]) (rr := [.int x1]) rfl rfl rfl ?_
  refine bo_m hm1 (fun S2 L2 J2 => ?_)
  show am_ex 40 239 1099 [some (.ref 0), some (.ref 5), some (.ref 285), some (.int (nI i))] [.int x1, .int x1] (am_hh X S2 L2) _
  refine ax_cmp_eq rfl (fun c1 => ?_) (fun c1 => False.elim (by first | exact c1 (rfl) | exact (rfl) c1))
  exact k S2 L2 J2
theorem law_29 {X : Nat × (Nat → Int32)} {S : Nat → Nat → Int32} {L : Nat → Int64} {i : Nat} {Q : Option Value → am_H → Prop} (hX : X.1 < 2 ^ 31) (hi : i + 5 < X.1) (J : JJ S) (k : ∀ S2 L2, JJ S2 → am_ex 40 239 1298 [some (.ref 0), some (.ref 5), some (.ref 285), some (.int (nI i))] [] (am_hh X S2 L2) Q) : am_ex 40 239 1104 [some (.ref 0), some (.ref 5), some (.ref 285), some (.int (nI i))] [] (am_hh X S L) Q := by
  refine ax_s (pc' := 1105) (st' := [.ref 5]) rfl rfl rfl rfl ?_
  refine ax_s (pc' := 1106) (st' := [.ref 0, .ref 5]) rfl rfl rfl rfl ?_
  refine ax_s (pc' := 1107) (st' := [.int (nI i), .ref 0, .ref 5]) rfl rfl rfl rfl ?_
  refine ax_s (pc' := 1108) (st' := [.int 1, .int (nI i), .ref 0, .ref 5]) rfl rfl rfl rfl ?_
  refine ax_s (pc' := 1109) (st' := [.int ((nI i) + 1), .ref 0, .ref 5]) rfl rfl rfl rfl ?_
  refine ax_ald (j := (i + 1)) (v := (X.2 (i + 1))) rfl (hh_s0 _ _ _) rfl (am_na (x := i) (y := 1) rfl rfl) (show (i + 1) < X.1 by omega) hX rfl ?_
  refine ax_call (vs := [.ref 5, .int (X.2 (i + 1))]) (rr := []) rfl rfl rfl ?_
  refine bo_k (bo_image J (X.2 (i + 1))) rfl (fun x1 S1 L1 hm1 => ?_)
  show am_ex 40 239 1113 [some (.ref 0), some (.ref 5), some (.ref 285), some (.int (nI i))] [.int x1] (am_hh X S1 L1) _
  refine ax_s (pc' := 1114) (st' := [.ref 285, .int x1]) rfl rfl rfl rfl ?_
  refine ax_s (pc' := 1115) (st' := [.ref 0, .ref 285, .int x1]) rfl rfl rfl rfl ?_
  refine ax_s (pc' := 1116) (st' := [.int (nI i), .ref 0, .ref 285, .int x1]) rfl rfl rfl rfl ?_
  refine ax_s (pc' := 1117) (st' := [.int 1, .int (nI i), .ref 0, .ref 285, .int x1]) rfl rfl rfl rfl ?_
  refine ax_s (pc' := 1118) (st' := [.int ((nI i) + 1), .ref 0, .ref 285, .int x1]) rfl rfl rfl rfl ?_
  refine ax_ald (j := (i + 1)) (v := (X.2 (i + 1))) rfl (hh_s0 _ _ _) rfl (am_na (x := i) (y := 1) rfl rfl) (show (i + 1) < X.1 by omega) hX rfl ?_
  refine ax_call (vs := [.ref 285, .int (X.2 (i + 1))]) (rr := [.int x1]) rfl rfl rfl ?_
  refine bo_m hm1 (fun S2 L2 J2 => ?_)
  show am_ex 40 239 1122 [some (.ref 0), some (.ref 5), some (.ref 285), some (.int (nI i))] [.int x1, .int x1] (am_hh X S2 L2) _
  refine ax_cmp_eq rfl (fun c1 => ?_) (fun c1 => False.elim (by first | exact c1 (rfl) | exact (rfl) c1))
  exact k S2 L2 J2
theorem law_30 {X : Nat × (Nat → Int32)} {S : Nat → Nat → Int32} {L : Nat → Int64} {i : Nat} {Q : Option Value → am_H → Prop} (hX : X.1 < 2 ^ 31) (hi : i + 5 < X.1) (J : JJ S) (k : ∀ S2 L2, JJ S2 → am_ex 40 239 1298 [some (.ref 0), some (.ref 5), some (.ref 285), some (.int (nI i))] [] (am_hh X S2 L2) Q) : am_ex 40 239 1127 [some (.ref 0), some (.ref 5), some (.ref 285), some (.int (nI i))] [] (am_hh X S L) Q := by
  refine ax_s (pc' := 1128) (st' := [.ref 5]) rfl rfl rfl rfl ?_
  refine ax_s (pc' := 1129) (st' := [.ref 0, .ref 5]) rfl rfl rfl rfl ?_
  refine ax_s (pc' := 1130) (st' := [.int (nI i), .ref 0, .ref 5]) rfl rfl rfl rfl ?_
  refine ax_s (pc' := 1131) (st' := [.int 1, .int (nI i), .ref 0, .ref 5]) rfl rfl rfl rfl ?_
  refine ax_s (pc' := 1132) (st' := [.int ((nI i) + 1), .ref 0, .ref 5]) rfl rfl rfl rfl ?_
  refine ax_ald (j := (i + 1)) (v := (X.2 (i + 1))) rfl (hh_s0 _ _ _) rfl (am_na (x := i) (y := 1) rfl rfl) (show (i + 1) < X.1 by omega) hX rfl ?_
  refine ax_call (vs := [.ref 5, .int (X.2 (i + 1))]) (rr := []) rfl rfl rfl ?_
  refine bo_k (bo_restore J (X.2 (i + 1))) rfl (fun x1 S1 L1 hm1 => ?_)
  show am_ex 40 239 1136 [some (.ref 0), some (.ref 5), some (.ref 285), some (.int (nI i))] [.int x1] (am_hh X S1 L1) _
  refine ax_s (pc' := 1137) (st' := [.ref 285, .int x1]) rfl rfl rfl rfl ?_
  refine ax_s (pc' := 1138) (st' := [.ref 0, .ref 285, .int x1]) rfl rfl rfl rfl ?_
  refine ax_s (pc' := 1139) (st' := [.int (nI i), .ref 0, .ref 285, .int x1]) rfl rfl rfl rfl ?_
  refine ax_s (pc' := 1140) (st' := [.int 1, .int (nI i), .ref 0, .ref 285, .int x1]) rfl rfl rfl rfl ?_
  refine ax_s (pc' := 1141) (st' := [.int ((nI i) + 1), .ref 0, .ref 285, .int x1]) rfl rfl rfl rfl ?_
  refine ax_ald (j := (i + 1)) (v := (X.2 (i + 1))) rfl (hh_s0 _ _ _) rfl (am_na (x := i) (y := 1) rfl rfl) (show (i + 1) < X.1 by omega) hX rfl ?_
  refine ax_call (vs := [.ref 285, .int (X.2 (i + 1))]) (rr := [.int x1]) rfl rfl rfl ?_
  refine bo_m hm1 (fun S2 L2 J2 => ?_)
  show am_ex 40 239 1145 [some (.ref 0), some (.ref 5), some (.ref 285), some (.int (nI i))] [.int x1, .int x1] (am_hh X S2 L2) _
  refine ax_cmp_eq rfl (fun c1 => ?_) (fun c1 => False.elim (by first | exact c1 (rfl) | exact (rfl) c1))
  exact k S2 L2 J2
theorem law_31 {X : Nat × (Nat → Int32)} {S : Nat → Nat → Int32} {L : Nat → Int64} {i : Nat} {Q : Option Value → am_H → Prop} (hX : X.1 < 2 ^ 31) (hi : i + 5 < X.1) (J : JJ S) (k : ∀ S2 L2, JJ S2 → am_ex 40 239 1298 [some (.ref 0), some (.ref 5), some (.ref 285), some (.int (nI i))] [] (am_hh X S2 L2) Q) : am_ex 40 239 1150 [some (.ref 0), some (.ref 5), some (.ref 285), some (.int (nI i))] [] (am_hh X S L) Q := by
  refine ax_s (pc' := 1151) (st' := [.ref 5]) rfl rfl rfl rfl ?_
  refine ax_s (pc' := 1152) (st' := [.ref 0, .ref 5]) rfl rfl rfl rfl ?_
  refine ax_s (pc' := 1153) (st' := [.int (nI i), .ref 0, .ref 5]) rfl rfl rfl rfl ?_
  refine ax_s (pc' := 1154) (st' := [.int 1, .int (nI i), .ref 0, .ref 5]) rfl rfl rfl rfl ?_
  refine ax_s (pc' := 1155) (st' := [.int ((nI i) + 1), .ref 0, .ref 5]) rfl rfl rfl rfl ?_
  refine ax_ald (j := (i + 1)) (v := (X.2 (i + 1))) rfl (hh_s0 _ _ _) rfl (am_na (x := i) (y := 1) rfl rfl) (show (i + 1) < X.1 by omega) hX rfl ?_
  refine ax_call (vs := [.ref 5, .int (X.2 (i + 1))]) (rr := []) rfl rfl rfl ?_
  refine bo_k (bo_kind J (X.2 (i + 1))) rfl (fun x1 S1 L1 hm1 => ?_)
  show am_ex 40 239 1159 [some (.ref 0), some (.ref 5), some (.ref 285), some (.int (nI i))] [.int x1] (am_hh X S1 L1) _
  refine ax_s (pc' := 1160) (st' := [.ref 285, .int x1]) rfl rfl rfl rfl ?_
  refine ax_s (pc' := 1161) (st' := [.ref 0, .ref 285, .int x1]) rfl rfl rfl rfl ?_
  refine ax_s (pc' := 1162) (st' := [.int (nI i), .ref 0, .ref 285, .int x1]) rfl rfl rfl rfl ?_
  refine ax_s (pc' := 1163) (st' := [.int 1, .int (nI i), .ref 0, .ref 285, .int x1]) rfl rfl rfl rfl ?_
  refine ax_s (pc' := 1164) (st' := [.int ((nI i) + 1), .ref 0, .ref 285, .int x1]) rfl rfl rfl rfl ?_
  refine ax_ald (j := (i + 1)) (v := (X.2 (i + 1))) rfl (hh_s0 _ _ _) rfl (am_na (x := i) (y := 1) rfl rfl) (show (i + 1) < X.1 by omega) hX rfl ?_
  refine ax_call (vs := [.ref 285, .int (X.2 (i + 1))]) (rr := [.int x1]) rfl rfl rfl ?_
  refine bo_m hm1 (fun S2 L2 J2 => ?_)
  show am_ex 40 239 1168 [some (.ref 0), some (.ref 5), some (.ref 285), some (.int (nI i))] [.int x1, .int x1] (am_hh X S2 L2) _
  refine ax_cmp_eq rfl (fun c1 => ?_) (fun c1 => False.elim (by first | exact c1 (rfl) | exact (rfl) c1))
  exact k S2 L2 J2
theorem law_32 {X : Nat × (Nat → Int32)} {S : Nat → Nat → Int32} {L : Nat → Int64} {i : Nat} {Q : Option Value → am_H → Prop} (hX : X.1 < 2 ^ 31) (hi : i + 5 < X.1) (J : JJ S) (k : ∀ S2 L2, JJ S2 → am_ex 40 239 1298 [some (.ref 0), some (.ref 5), some (.ref 285), some (.int (nI i))] [] (am_hh X S2 L2) Q) : am_ex 40 239 1173 [some (.ref 0), some (.ref 5), some (.ref 285), some (.int (nI i))] [] (am_hh X S L) Q := by
  refine ax_s (pc' := 1174) (st' := [.ref 5]) rfl rfl rfl rfl ?_
  refine ax_s (pc' := 1175) (st' := [.ref 0, .ref 5]) rfl rfl rfl rfl ?_
  refine ax_s (pc' := 1176) (st' := [.int (nI i), .ref 0, .ref 5]) rfl rfl rfl rfl ?_
  refine ax_s (pc' := 1177) (st' := [.int 1, .int (nI i), .ref 0, .ref 5]) rfl rfl rfl rfl ?_
  refine ax_s (pc' := 1178) (st' := [.int ((nI i) + 1), .ref 0, .ref 5]) rfl rfl rfl rfl ?_
  refine ax_ald (j := (i + 1)) (v := (X.2 (i + 1))) rfl (hh_s0 _ _ _) rfl (am_na (x := i) (y := 1) rfl rfl) (show (i + 1) < X.1 by omega) hX rfl ?_
  refine ax_s (pc' := 1180) (st' := [.ref 0, .int (X.2 (i + 1)), .ref 5]) rfl rfl rfl rfl ?_
  refine ax_s (pc' := 1181) (st' := [.int (nI i), .ref 0, .int (X.2 (i + 1)), .ref 5]) rfl rfl rfl rfl ?_
  refine ax_s (pc' := 1182) (st' := [.int 2, .int (nI i), .ref 0, .int (X.2 (i + 1)), .ref 5]) rfl rfl rfl rfl ?_
  refine ax_s (pc' := 1183) (st' := [.int ((nI i) + 2), .ref 0, .int (X.2 (i + 1)), .ref 5]) rfl rfl rfl rfl ?_
  refine ax_ald (j := (i + 2)) (v := (X.2 (i + 2))) rfl (hh_s0 _ _ _) rfl (am_na (x := i) (y := 2) rfl rfl) (show (i + 2) < X.1 by omega) hX rfl ?_
  refine ax_call (vs := [.ref 5, .int (X.2 (i + 1)), .int (X.2 (i + 2))]) (rr := []) rfl rfl rfl ?_
  refine bo_k (bo_as J (X.2 (i + 1)) (X.2 (i + 2))) rfl (fun x1 S1 L1 hm1 => ?_)
  show am_ex 40 239 1187 [some (.ref 0), some (.ref 5), some (.ref 285), some (.int (nI i))] [.int x1] (am_hh X S1 L1) _
  refine ax_s (pc' := 1188) (st' := [.ref 285, .int x1]) rfl rfl rfl rfl ?_
  refine ax_s (pc' := 1189) (st' := [.ref 0, .ref 285, .int x1]) rfl rfl rfl rfl ?_
  refine ax_s (pc' := 1190) (st' := [.int (nI i), .ref 0, .ref 285, .int x1]) rfl rfl rfl rfl ?_
  refine ax_s (pc' := 1191) (st' := [.int 1, .int (nI i), .ref 0, .ref 285, .int x1]) rfl rfl rfl rfl ?_
  refine ax_s (pc' := 1192) (st' := [.int ((nI i) + 1), .ref 0, .ref 285, .int x1]) rfl rfl rfl rfl ?_
  refine ax_ald (j := (i + 1)) (v := (X.2 (i + 1))) rfl (hh_s0 _ _ _) rfl (am_na (x := i) (y := 1) rfl rfl) (show (i + 1) < X.1 by omega) hX rfl ?_
  refine ax_s (pc' := 1194) (st' := [.ref 0, .int (X.2 (i + 1)), .ref 285, .int x1]) rfl rfl rfl rfl ?_
  refine ax_s (pc' := 1195) (st' := [.int (nI i), .ref 0, .int (X.2 (i + 1)), .ref 285, .int x1]) rfl rfl rfl rfl ?_
  refine ax_s (pc' := 1196) (st' := [.int 2, .int (nI i), .ref 0, .int (X.2 (i + 1)), .ref 285, .int x1]) rfl rfl rfl rfl ?_
  refine ax_s (pc' := 1197) (st' := [.int ((nI i) + 2), .ref 0, .int (X.2 (i + 1)), .ref 285, .int x1]) rfl rfl rfl rfl ?_
  refine ax_ald (j := (i + 2)) (v := (X.2 (i + 2))) rfl (hh_s0 _ _ _) rfl (am_na (x := i) (y := 2) rfl rfl) (show (i + 2) < X.1 by omega) hX rfl ?_
  refine ax_call (vs := [.ref 285, .int (X.2 (i + 1)), .int (X.2 (i + 2))]) (rr := [.int x1]) rfl rfl rfl ?_
  refine bo_m hm1 (fun S2 L2 J2 => ?_)
  show am_ex 40 239 1201 [some (.ref 0), some (.ref 5), some (.ref 285), some (.int (nI i))] [.int x1, .int x1] (am_hh X S2 L2) _
  refine ax_cmp_eq rfl (fun c1 => ?_) (fun c1 => False.elim (by first | exact c1 (rfl) | exact (rfl) c1))
  exact k S2 L2 J2
theorem law_33 {X : Nat × (Nat → Int32)} {S : Nat → Nat → Int32} {L : Nat → Int64} {i : Nat} {Q : Option Value → am_H → Prop} (hX : X.1 < 2 ^ 31) (hi : i + 5 < X.1) (J : JJ S) (k : ∀ S2 L2, JJ S2 → am_ex 40 239 1298 [some (.ref 0), some (.ref 5), some (.ref 285), some (.int (nI i))] [] (am_hh X S2 L2) Q) : am_ex 40 239 1206 [some (.ref 0), some (.ref 5), some (.ref 285), some (.int (nI i))] [] (am_hh X S L) Q := by
  refine ax_s (pc' := 1207) (st' := [.ref 5]) rfl rfl rfl rfl ?_
  refine ax_s (pc' := 1208) (st' := [.ref 0, .ref 5]) rfl rfl rfl rfl ?_
  refine ax_s (pc' := 1209) (st' := [.int (nI i), .ref 0, .ref 5]) rfl rfl rfl rfl ?_
  refine ax_s (pc' := 1210) (st' := [.int 1, .int (nI i), .ref 0, .ref 5]) rfl rfl rfl rfl ?_
  refine ax_s (pc' := 1211) (st' := [.int ((nI i) + 1), .ref 0, .ref 5]) rfl rfl rfl rfl ?_
  refine ax_ald (j := (i + 1)) (v := (X.2 (i + 1))) rfl (hh_s0 _ _ _) rfl (am_na (x := i) (y := 1) rfl rfl) (show (i + 1) < X.1 by omega) hX rfl ?_
  refine ax_s (pc' := 1213) (st' := [.ref 0, .int (X.2 (i + 1)), .ref 5]) rfl rfl rfl rfl ?_
  refine ax_s (pc' := 1214) (st' := [.int (nI i), .ref 0, .int (X.2 (i + 1)), .ref 5]) rfl rfl rfl rfl ?_
  refine ax_s (pc' := 1215) (st' := [.int 2, .int (nI i), .ref 0, .int (X.2 (i + 1)), .ref 5]) rfl rfl rfl rfl ?_
  refine ax_s (pc' := 1216) (st' := [.int ((nI i) + 2), .ref 0, .int (X.2 (i + 1)), .ref 5]) rfl rfl rfl rfl ?_
  refine ax_ald (j := (i + 2)) (v := (X.2 (i + 2))) rfl (hh_s0 _ _ _) rfl (am_na (x := i) (y := 2) rfl rfl) (show (i + 2) < X.1 by omega) hX rfl ?_
  refine ax_call (vs := [.ref 5, .int (X.2 (i + 1)), .int (X.2 (i + 2))]) (rr := []) rfl rfl rfl ?_
  refine bo_k (bo_ask J (X.2 (i + 1)) (X.2 (i + 2))) rfl (fun x1 S1 L1 hm1 => ?_)
  show am_ex 40 239 1220 [some (.ref 0), some (.ref 5), some (.ref 285), some (.int (nI i))] [.int x1] (am_hh X S1 L1) _
  refine ax_s (pc' := 1221) (st' := [.ref 285, .int x1]) rfl rfl rfl rfl ?_
  refine ax_s (pc' := 1222) (st' := [.ref 0, .ref 285, .int x1]) rfl rfl rfl rfl ?_
  refine ax_s (pc' := 1223) (st' := [.int (nI i), .ref 0, .ref 285, .int x1]) rfl rfl rfl rfl ?_
  refine ax_s (pc' := 1224) (st' := [.int 1, .int (nI i), .ref 0, .ref 285, .int x1]) rfl rfl rfl rfl ?_
  refine ax_s (pc' := 1225) (st' := [.int ((nI i) + 1), .ref 0, .ref 285, .int x1]) rfl rfl rfl rfl ?_
  refine ax_ald (j := (i + 1)) (v := (X.2 (i + 1))) rfl (hh_s0 _ _ _) rfl (am_na (x := i) (y := 1) rfl rfl) (show (i + 1) < X.1 by omega) hX rfl ?_
  refine ax_s (pc' := 1227) (st' := [.ref 0, .int (X.2 (i + 1)), .ref 285, .int x1]) rfl rfl rfl rfl ?_
  refine ax_s (pc' := 1228) (st' := [.int (nI i), .ref 0, .int (X.2 (i + 1)), .ref 285, .int x1]) rfl rfl rfl rfl ?_
  refine ax_s (pc' := 1229) (st' := [.int 2, .int (nI i), .ref 0, .int (X.2 (i + 1)), .ref 285, .int x1]) rfl rfl rfl rfl ?_
  refine ax_s (pc' := 1230) (st' := [.int ((nI i) + 2), .ref 0, .int (X.2 (i + 1)), .ref 285, .int x1]) rfl rfl rfl rfl ?_
  refine ax_ald (j := (i + 2)) (v := (X.2 (i + 2))) rfl (hh_s0 _ _ _) rfl (am_na (x := i) (y := 2) rfl rfl) (show (i + 2) < X.1 by omega) hX rfl ?_
  refine ax_call (vs := [.ref 285, .int (X.2 (i + 1)), .int (X.2 (i + 2))]) (rr := [.int x1]) rfl rfl rfl ?_
  refine bo_m hm1 (fun S2 L2 J2 => ?_)
  show am_ex 40 239 1234 [some (.ref 0), some (.ref 5), some (.ref 285), some (.int (nI i))] [.int x1, .int x1] (am_hh X S2 L2) _
  refine ax_cmp_eq rfl (fun c1 => ?_) (fun c1 => False.elim (by first | exact c1 (rfl) | exact (rfl) c1))
  exact k S2 L2 J2
theorem law_34 {X : Nat × (Nat → Int32)} {S : Nat → Nat → Int32} {L : Nat → Int64} {i : Nat} {Q : Option Value → am_H → Prop} (hX : X.1 < 2 ^ 31) (hi : i + 5 < X.1) (J : JJ S) (k : ∀ S2 L2, JJ S2 → am_ex 40 239 1298 [some (.ref 0), some (.ref 5), some (.ref 285), some (.int (nI i))] [] (am_hh X S2 L2) Q) : am_ex 40 239 1239 [some (.ref 0), some (.ref 5), some (.ref 285), some (.int (nI i))] [] (am_hh X S L) Q := by
  refine ax_s (pc' := 1240) (st' := [.ref 5]) rfl rfl rfl rfl ?_
  refine ax_s (pc' := 1241) (st' := [.ref 0, .ref 5]) rfl rfl rfl rfl ?_
  refine ax_s (pc' := 1242) (st' := [.int (nI i), .ref 0, .ref 5]) rfl rfl rfl rfl ?_
  refine ax_s (pc' := 1243) (st' := [.int 1, .int (nI i), .ref 0, .ref 5]) rfl rfl rfl rfl ?_
  refine ax_s (pc' := 1244) (st' := [.int ((nI i) + 1), .ref 0, .ref 5]) rfl rfl rfl rfl ?_
  refine ax_ald (j := (i + 1)) (v := (X.2 (i + 1))) rfl (hh_s0 _ _ _) rfl (am_na (x := i) (y := 1) rfl rfl) (show (i + 1) < X.1 by omega) hX rfl ?_
  refine ax_call (vs := [.ref 5, .int (X.2 (i + 1))]) (rr := []) rfl rfl rfl ?_
  refine bo_k (bo_trace J (X.2 (i + 1))) rfl (fun x1 S1 L1 hm1 => ?_)
  show am_ex 40 239 1248 [some (.ref 0), some (.ref 5), some (.ref 285), some (.int (nI i))] [.int x1] (am_hh X S1 L1) _
  refine ax_s (pc' := 1249) (st' := [.ref 285, .int x1]) rfl rfl rfl rfl ?_
  refine ax_s (pc' := 1250) (st' := [.ref 0, .ref 285, .int x1]) rfl rfl rfl rfl ?_
  refine ax_s (pc' := 1251) (st' := [.int (nI i), .ref 0, .ref 285, .int x1]) rfl rfl rfl rfl ?_
  refine ax_s (pc' := 1252) (st' := [.int 1, .int (nI i), .ref 0, .ref 285, .int x1]) rfl rfl rfl rfl ?_
  refine ax_s (pc' := 1253) (st' := [.int ((nI i) + 1), .ref 0, .ref 285, .int x1]) rfl rfl rfl rfl ?_
  refine ax_ald (j := (i + 1)) (v := (X.2 (i + 1))) rfl (hh_s0 _ _ _) rfl (am_na (x := i) (y := 1) rfl rfl) (show (i + 1) < X.1 by omega) hX rfl ?_
  refine ax_call (vs := [.ref 285, .int (X.2 (i + 1))]) (rr := [.int x1]) rfl rfl rfl ?_
  refine bo_m hm1 (fun S2 L2 J2 => ?_)
  show am_ex 40 239 1257 [some (.ref 0), some (.ref 5), some (.ref 285), some (.int (nI i))] [.int x1, .int x1] (am_hh X S2 L2) _
  refine ax_cmp_eq rfl (fun c1 => ?_) (fun c1 => False.elim (by first | exact c1 (rfl) | exact (rfl) c1))
  exact k S2 L2 J2
theorem law_35 {X : Nat × (Nat → Int32)} {S : Nat → Nat → Int32} {L : Nat → Int64} {i : Nat} {Q : Option Value → am_H → Prop} (hX : X.1 < 2 ^ 31) (hi : i + 5 < X.1) (J : JJ S) (k : ∀ S2 L2, JJ S2 → am_ex 40 239 1298 [some (.ref 0), some (.ref 5), some (.ref 285), some (.int (nI i))] [] (am_hh X S2 L2) Q) : am_ex 40 239 1262 [some (.ref 0), some (.ref 5), some (.ref 285), some (.int (nI i))] [] (am_hh X S L) Q := by
  refine ax_s (pc' := 1263) (st' := [.ref 5]) rfl rfl rfl rfl ?_
  refine ax_s (pc' := 1264) (st' := [.ref 0, .ref 5]) rfl rfl rfl rfl ?_
  refine ax_s (pc' := 1265) (st' := [.int (nI i), .ref 0, .ref 5]) rfl rfl rfl rfl ?_
  refine ax_s (pc' := 1266) (st' := [.int 1, .int (nI i), .ref 0, .ref 5]) rfl rfl rfl rfl ?_
  refine ax_s (pc' := 1267) (st' := [.int ((nI i) + 1), .ref 0, .ref 5]) rfl rfl rfl rfl ?_
  refine ax_ald (j := (i + 1)) (v := (X.2 (i + 1))) rfl (hh_s0 _ _ _) rfl (am_na (x := i) (y := 1) rfl rfl) (show (i + 1) < X.1 by omega) hX rfl ?_
  refine ax_call (vs := [.ref 5, .int (X.2 (i + 1))]) (rr := []) rfl rfl rfl ?_
  refine bo_k (bo_count J (X.2 (i + 1))) rfl (fun x1 S1 L1 hm1 => ?_)
  show am_ex 40 239 1271 [some (.ref 0), some (.ref 5), some (.ref 285), some (.int (nI i))] [.int x1] (am_hh X S1 L1) _
  refine ax_s (pc' := 1272) (st' := [.ref 285, .int x1]) rfl rfl rfl rfl ?_
  refine ax_s (pc' := 1273) (st' := [.ref 0, .ref 285, .int x1]) rfl rfl rfl rfl ?_
  refine ax_s (pc' := 1274) (st' := [.int (nI i), .ref 0, .ref 285, .int x1]) rfl rfl rfl rfl ?_
  refine ax_s (pc' := 1275) (st' := [.int 1, .int (nI i), .ref 0, .ref 285, .int x1]) rfl rfl rfl rfl ?_
  refine ax_s (pc' := 1276) (st' := [.int ((nI i) + 1), .ref 0, .ref 285, .int x1]) rfl rfl rfl rfl ?_
  refine ax_ald (j := (i + 1)) (v := (X.2 (i + 1))) rfl (hh_s0 _ _ _) rfl (am_na (x := i) (y := 1) rfl rfl) (show (i + 1) < X.1 by omega) hX rfl ?_
  refine ax_call (vs := [.ref 285, .int (X.2 (i + 1))]) (rr := [.int x1]) rfl rfl rfl ?_
  refine bo_m hm1 (fun S2 L2 J2 => ?_)
  show am_ex 40 239 1280 [some (.ref 0), some (.ref 5), some (.ref 285), some (.int (nI i))] [.int x1, .int x1] (am_hh X S2 L2) _
  refine ax_cmp_eq rfl (fun c1 => ?_) (fun c1 => False.elim (by first | exact c1 (rfl) | exact (rfl) c1))
  exact k S2 L2 J2
theorem law_36 {X : Nat × (Nat → Int32)} {S : Nat → Nat → Int32} {L : Nat → Int64} {i : Nat} {Q : Option Value → am_H → Prop} (hX : X.1 < 2 ^ 31) (hi : i + 5 < X.1) (J : JJ S) (k : ∀ S2 L2, JJ S2 → am_ex 40 239 1298 [some (.ref 0), some (.ref 5), some (.ref 285), some (.int (nI i))] [] (am_hh X S2 L2) Q) : am_ex 40 239 1285 [some (.ref 0), some (.ref 5), some (.ref 285), some (.int (nI i))] [] (am_hh X S L) Q := by
  refine ax_s (pc' := 1286) (st' := [.ref 5]) rfl rfl rfl rfl ?_
  refine ax_call (vs := [.ref 5]) (rr := []) rfl rfl rfl ?_
  refine bo_k (bo_status J ) rfl (fun x1 S1 L1 hm1 => ?_)
  show am_ex 40 239 1289 [some (.ref 0), some (.ref 5), some (.ref 285), some (.int (nI i))] [.int x1] (am_hh X S1 L1) _
  refine ax_s (pc' := 1290) (st' := [.ref 285, .int x1]) rfl rfl rfl rfl ?_
  refine ax_call (vs := [.ref 285]) (rr := [.int x1]) rfl rfl rfl ?_
  refine bo_m hm1 (fun S2 L2 J2 => ?_)
  show am_ex 40 239 1293 [some (.ref 0), some (.ref 5), some (.ref 285), some (.int (nI i))] [.int x1, .int x1] (am_hh X S2 L2) _
  refine ax_cmp_eq rfl (fun c1 => ?_) (fun c1 => False.elim (by first | exact c1 (rfl) | exact (rfl) c1))
  exact k S2 L2 J2
