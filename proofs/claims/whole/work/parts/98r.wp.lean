theorem wl_leansAs {d : Nat} {X : Nat × (Nat → Int32)} {S : Nat → Nat → Int32} {L : Nat → Int64} {g n r f N i : Nat} {W : Nat → Nat → Int32} {Q : Option Value → am_H → Prop} (hr : r < 8) (hw : wF W g n) (hw2 : wF (w_ms W rk0 g n) g n)  (x1 : ¬ (nI N) ≤ (nI i) → (f + i) < 40) (k1 : (nI N) ≤ (nI i) → Q (some (.int 1)) (am_hh X (am_ovl S 29 W) L)) (k2 : ¬ (nI N) ≤ (nI i) → (w_lean (w_ms W rk0 g n) g n ((w_ms W rk0 g n) 0 2)) = ((am_ovl S 29 (w_ms W rk0 g n)) (8 + 1 * r) (f + i)) → am_ex (d + 7) 118 3 [some (.ref 280), some (.ref (8 + 1 * r)), some (.int (nI f)), some (.int (nI N)), some (.int (nI (i + 1)))] [] (am_hh X (am_ovl S 29 (w_ms W rk0 g n)) L) Q) (k3 : ¬ (nI N) ≤ (nI i) → ¬ (w_lean (w_ms W rk0 g n) g n ((w_ms W rk0 g n) 0 2)) = ((am_ovl S 29 (w_ms W rk0 g n)) (8 + 1 * r) (f + i)) → Q (some (.int 0)) (am_hh X (am_ovl S 29 (w_ms W rk0 g n)) L)) : am_ex (d + 7) 118 3 [some (.ref 280), some (.ref (8 + 1 * r)), some (.int (nI f)), some (.int (nI N)), some (.int (nI i))] [] (am_hh X (am_ovl S 29 W) L) Q := by
  refine ax_s (pc' := 5) (st' := [.int (nI i)]) rfl rfl rfl rfl ?_
  refine ax_s (pc' := 6) (st' := [.int (nI N), .int (nI i)]) rfl rfl rfl rfl ?_
  refine ax_cmp_ge rfl (fun c1 => ?_) (fun c1 => ?_)
  · refine ax_s (pc' := 52) (st' := [.int 1]) rfl rfl rfl rfl ?_
    refine ax_rb (b := true) rfl rfl ?_
    exact k1 c1
  · refine ax_s (pc' := 10) (st' := [.ref 280]) rfl rfl rfl rfl ?_
    refine ax_get rfl (hh_280 _ _ _) rfl rfl rfl ?_
    show am_ex (d + 7) 118 13 [some (.ref 280), some (.ref (8 + 1 * r)), some (.int (nI f)), some (.int (nI N)), some (.int (nI i))] [.ref 29] (am_hh X (am_ovl S 29 W) L) _
    refine ax_s (pc' := 16) (st' := [.ref 1, .ref 29]) rfl rfl rfl rfl ?_
    refine ax_call (vs := [.ref 29, .ref 1]) (rr := []) rfl rfl rfl ?_
    refine kw (am_hh_ov isW29 X S L W).symm (am_hh_ov isW29 X S L _) (fun _ => ct_makeStep (rk := rk0) (am_isW_k isW29 X S L) hw.1 hw.2.1 hw.2.2.1 hw.2.2.2 (hh_s1 _ _ _) (by decide) (show 1 < 301 + 5 by decide)) ?_
    show am_ex (d + 7) 118 19 [some (.ref 280), some (.ref (8 + 1 * r)), some (.int (nI f)), some (.int (nI N)), some (.int (nI i))] [.int (bI (w_mb W rk0 g n))] (am_hh X (am_ovl S 29 (w_ms W rk0 g n)) L) _
    refine ax_s (pc' := 20) (st' := []) rfl rfl rfl rfl ?_
    refine ax_s (pc' := 21) (st' := [.ref 280]) rfl rfl rfl rfl ?_
    refine ax_get rfl (hh_280 _ _ _) rfl rfl rfl ?_
    show am_ex (d + 7) 118 24 [some (.ref 280), some (.ref (8 + 1 * r)), some (.int (nI f)), some (.int (nI N)), some (.int (nI i))] [.ref 29] (am_hh X (am_ovl S 29 (w_ms W rk0 g n)) L) _
    refine ax_s (pc' := 25) (st' := [.ref 280, .ref 29]) rfl rfl rfl rfl ?_
    refine ax_get rfl (hh_280 _ _ _) rfl rfl rfl ?_
    show am_ex (d + 7) 118 28 [some (.ref 280), some (.ref (8 + 1 * r)), some (.int (nI f)), some (.int (nI N)), some (.int (nI i))] [.ref 29, .ref 29] (am_hh X (am_ovl S 29 (w_ms W rk0 g n)) L) _
    refine ax_get rfl (hh_29 _ _ _) rfl rfl rfl ?_
    show am_ex (d + 7) 118 31 [some (.ref 280), some (.ref (8 + 1 * r)), some (.int (nI f)), some (.int (nI N)), some (.int (nI i))] [.int ((w_ms W rk0 g n) 0 2), .ref 29] (am_hh X (am_ovl S 29 (w_ms W rk0 g n)) L) _
    refine ax_call (vs := [.ref 29, .int ((w_ms W rk0 g n) 0 2)]) (rr := []) rfl rfl rfl ?_
    refine kw (am_hh_ov isW29 X S L (w_ms W rk0 g n)).symm (am_hh_ov isW29 X S L (w_ms W rk0 g n)).symm.symm (fun _ => ct_leanWith (am_isW_k isW29 X S L) hw2.1 hw2.2.1 hw2.2.2.1 hw2.2.2.2) ?_
    show am_ex (d + 7) 118 34 [some (.ref 280), some (.ref (8 + 1 * r)), some (.int (nI f)), some (.int (nI N)), some (.int (nI i))] [.int (w_lean (w_ms W rk0 g n) g n ((w_ms W rk0 g n) 0 2))] (am_hh X (am_ovl S 29 (w_ms W rk0 g n)) L) _
    refine ax_s (pc' := 35) (st' := [.ref (8 + 1 * r), .int (w_lean (w_ms W rk0 g n) g n ((w_ms W rk0 g n) 0 2))]) rfl rfl rfl rfl ?_
    refine ax_s (pc' := 36) (st' := [.int (nI f), .ref (8 + 1 * r), .int (w_lean (w_ms W rk0 g n) g n ((w_ms W rk0 g n) 0 2))]) rfl rfl rfl rfl ?_
    refine ax_s (pc' := 38) (st' := [.int (nI i), .int (nI f), .ref (8 + 1 * r), .int (w_lean (w_ms W rk0 g n) g n ((w_ms W rk0 g n) 0 2))]) rfl rfl rfl rfl ?_
    refine ax_s (pc' := 39) (st' := [.int ((nI f) + (nI i)), .ref (8 + 1 * r), .int (w_lean (w_ms W rk0 g n) g n ((w_ms W rk0 g n) 0 2))]) rfl rfl rfl rfl ?_
    refine ax_ald (j := (f + i)) (v := ((am_ovl S 29 (w_ms W rk0 g n)) (8 + 1 * r) (f + i))) rfl (hh_row _ _ _ hr) (hh_rowi _ _ _ hr) (am_na (x := f) (y := i) rfl rfl) (x1 c1) (by decide) rfl ?_
    refine ax_cmp_eq rfl (fun c2 => ?_) (fun c2 => ?_)
    · refine ax_s (pc' := 48) (ls' := [some (.ref 280), some (.ref (8 + 1 * r)), some (.int (nI f)), some (.int (nI N)), some (.int ((nI i) + 1))]) (st' := []) rfl rfl rfl rfl ?_
      rw [nI_1]
      refine ax_s (pc' := 3) (st' := []) rfl rfl rfl rfl ?_
      exact k2 c1 c2
    · refine ax_s (pc' := 44) (st' := [.int 0]) rfl rfl rfl rfl ?_
      refine ax_rb (b := false) rfl rfl ?_
      exact k3 c1 c2
theorem wp_leansAs {d : Nat} {X : Nat × (Nat → Int32)} {S : Nat → Nat → Int32} {L : Nat → Int64} {r f N : Nat} {Q : Option Value → am_H → Prop}  (k1 : am_ex (d + 7) 118 3 [some (.ref 280), some (.ref (8 + 1 * r)), some (.int (nI f)), some (.int (nI N)), some (.int 0)] [] (am_hh X S L) Q) : am_mt (d + 7) 118 [.ref 280, .ref (8 + 1 * r), .int (nI f), .int (nI N)] (am_hh X S L) Q := by
  refine ax_in (ls := [some (.ref 280), some (.ref (8 + 1 * r)), some (.int (nI f)), some (.int (nI N)), none]) rfl ?_
  refine ax_s (pc' := 1) (st' := [.int 0]) rfl rfl rfl rfl ?_
  refine ax_s (pc' := 3) (ls' := [some (.ref 280), some (.ref (8 + 1 * r)), some (.int (nI f)), some (.int (nI N)), some (.int 0)]) (st' := []) rfl rfl rfl rfl ?_
  exact k1
theorem wl_isSo {d : Nat} {X : Nat × (Nat → Int32)} {S : Nat → Nat → Int32} {L : Nat → Int64} {g n : Nat} {W V : Nat → Nat → Int32} {S1 : Nat → Nat → Int32} {r f N i : Nat} {b : Bool} {Q : Option Value → am_H → Prop} (hK : JK S) (hf1 : F8 S S1) (hv : mR V S1 298 g n)  (x1 : ¬ (nI N) ≤ (nI i) → ∀ S2 : Nat → Nat → Int32, mR (w_it rk0 g n 1 V) S2 298 g n → F8 S1 S2 → b = true → (((40 * r) + f) + i) < 320) (k1 : (nI N) ≤ (nI i) → Q (some (.int (bI b))) (am_hh X S1 L)) (k2 : ¬ (nI N) ≤ (nI i) → ∀ S2 : Nat → Nat → Int32, mR (w_it rk0 g n 1 V) S2 298 g n → F8 S1 S2 → b = false → am_ex (d + 8) 214 6 [some (.ref 285), some (.int (nI r)), some (.int (nI f)), some (.int (nI N)), some (.int 0), some (.int (nI (i + 1)))] [] (am_hh X S2 L) Q) (k3 : ¬ (nI N) ≤ (nI i) → ∀ S2 : Nat → Nat → Int32, mR (w_it rk0 g n 1 V) S2 298 g n → F8 S1 S2 → b = true → ¬ (m_lean S2 298 g n (S2 298 1)) = (S2 288 (((40 * r) + f) + i)) → am_ex (d + 8) 214 6 [some (.ref 285), some (.int (nI r)), some (.int (nI f)), some (.int (nI N)), some (.int 0), some (.int (nI (i + 1)))] [] (am_hh X S2 L) Q) (k4 : ¬ (nI N) ≤ (nI i) → ∀ S2 : Nat → Nat → Int32, mR (w_it rk0 g n 1 V) S2 298 g n → F8 S1 S2 → b = true → (m_lean S2 298 g n (S2 298 1)) = (S2 288 (((40 * r) + f) + i)) → am_ex (d + 8) 214 6 [some (.ref 285), some (.int (nI r)), some (.int (nI f)), some (.int (nI N)), some (.int 1), some (.int (nI (i + 1)))] [] (am_hh X S2 L) Q) : am_ex (d + 8) 214 6 [some (.ref 285), some (.int (nI r)), some (.int (nI f)), some (.int (nI N)), some (.int (bI b)), some (.int (nI i))] [] (am_hh X S1 L) Q := by
  refine ax_s (pc' := 8) (st' := [.int (nI i)]) rfl rfl rfl rfl ?_
  refine ax_s (pc' := 9) (st' := [.int (nI N), .int (nI i)]) rfl rfl rfl rfl ?_
  refine ax_cmp_ge rfl (fun c1 => ?_) (fun c1 => ?_)
  · refine ax_s (pc' := 69) (st' := [.int (bI b)]) rfl rfl rfl rfl ?_
    refine ax_rb rfl rfl ?_
    exact k1 c1
  · refine ax_s (pc' := 13) (st' := [.ref 285]) rfl rfl rfl rfl ?_
    refine ax_s (pc' := 14) (st' := [.int 1, .ref 285]) rfl rfl rfl rfl ?_
    refine ax_call (vs := [.ref 285, .int 1]) (rr := []) rfl rfl rfl ?_
    refine mt_goes (K := 1) rfl (by decide) (F8_K hf1 hK) hv (fun S2 hm2 hf2 => ?_)
    show am_ex (d + 8) 214 17 [some (.ref 285), some (.int (nI r)), some (.int (nI f)), some (.int (nI N)), some (.int (bI b)), some (.int (nI i))] [.int (w_sn rk0 g n 1 V 0)] (am_hh X S2 L) _
    refine ax_s (pc' := 18) (st' := []) rfl rfl rfl rfl ?_
    refine ax_s (pc' := 20) (st' := [.int (bI b)]) rfl rfl rfl rfl ?_
    refine ax_bF rfl (fun c3 => ?_) (fun c3 => ?_)
    · refine ax_s (pc' := 59) (st' := [.int 0]) rfl rfl rfl rfl ?_
      refine ax_s (pc' := 61) (ls' := [some (.ref 285), some (.int (nI r)), some (.int (nI f)), some (.int (nI N)), some (.int 0), some (.int (nI i))]) (st' := []) rfl rfl rfl rfl ?_
      refine ax_s (pc' := 64) (ls' := [some (.ref 285), some (.int (nI r)), some (.int (nI f)), some (.int (nI N)), some (.int 0), some (.int ((nI i) + 1))]) (st' := []) rfl rfl rfl rfl ?_
      rw [nI_1]
      refine ax_s (pc' := 6) (st' := []) rfl rfl rfl rfl ?_
      exact k2 c1 S2 hm2 hf2 c3
    · refine ax_s (pc' := 24) (st' := [.ref 285]) rfl rfl rfl rfl ?_
      refine ax_s (pc' := 25) (st' := [.ref 285, .ref 285]) rfl rfl rfl rfl ?_
      refine ax_get rfl (hh_285 _ _ _) rfl rfl rfl ?_
      show am_ex (d + 8) 214 28 [some (.ref 285), some (.int (nI r)), some (.int (nI f)), some (.int (nI N)), some (.int (bI b)), some (.int (nI i))] [.ref 298, .ref 285] (am_hh X S2 L) _
      refine ax_s (pc' := 29) (st' := [.ref 285, .ref 298, .ref 285]) rfl rfl rfl rfl ?_
      refine ax_get rfl (hh_285 _ _ _) rfl rfl rfl ?_
      show am_ex (d + 8) 214 32 [some (.ref 285), some (.int (nI r)), some (.int (nI f)), some (.int (nI N)), some (.int (bI b)), some (.int (nI i))] [.ref 298, .ref 298, .ref 285] (am_hh X S2 L) _
      refine ax_s (pc' := 33) (st' := [.int 1, .ref 298, .ref 298, .ref 285]) rfl rfl rfl rfl ?_
      refine ax_ald (j := 1) (v := (S2 298 1)) rfl (hh_298 _ _ _) rfl rfl (by decide) (by decide) rfl ?_
      refine ax_call (vs := [.ref 285, .ref 298, .int (S2 298 1)]) (rr := []) rfl rfl rfl ?_
      refine mt_leanBy (mR_F hm2 (F8_K (F8_t hf1 hf2) hK)).1.1 (mR_F hm2 (F8_K (F8_t hf1 hf2) hK)).1.2 (mR_F hm2 (F8_K (F8_t hf1 hf2) hK)).2.1.1 (mR_F hm2 (F8_K (F8_t hf1 hf2) hK)).2.1.2.1 (mR_F hm2 (F8_K (F8_t hf1 hf2) hK)).2.1.2.2 (Or.inr rfl) ?_
      show am_ex (d + 8) 214 37 [some (.ref 285), some (.int (nI r)), some (.int (nI f)), some (.int (nI N)), some (.int (bI b)), some (.int (nI i))] [.int (m_lean S2 298 g n (S2 298 1))] (am_hh X S2 L) _
      refine ax_s (pc' := 38) (st' := [.ref 285, .int (m_lean S2 298 g n (S2 298 1))]) rfl rfl rfl rfl ?_
      refine ax_get rfl (hh_285 _ _ _) rfl rfl rfl ?_
      show am_ex (d + 8) 214 41 [some (.ref 285), some (.int (nI r)), some (.int (nI f)), some (.int (nI N)), some (.int (bI b)), some (.int (nI i))] [.ref 288, .int (m_lean S2 298 g n (S2 298 1))] (am_hh X S2 L) _
      refine ax_s (pc' := 43) (st' := [.int 40, .ref 288, .int (m_lean S2 298 g n (S2 298 1))]) rfl rfl rfl rfl ?_
      refine ax_s (pc' := 44) (st' := [.int (nI r), .int 40, .ref 288, .int (m_lean S2 298 g n (S2 298 1))]) rfl rfl rfl rfl ?_
      refine ax_s (pc' := 45) (st' := [.int (40 * (nI r)), .ref 288, .int (m_lean S2 298 g n (S2 298 1))]) rfl rfl rfl rfl ?_
      refine ax_s (pc' := 46) (st' := [.int (nI f), .int (40 * (nI r)), .ref 288, .int (m_lean S2 298 g n (S2 298 1))]) rfl rfl rfl rfl ?_
      refine ax_s (pc' := 47) (st' := [.int ((40 * (nI r)) + (nI f)), .ref 288, .int (m_lean S2 298 g n (S2 298 1))]) rfl rfl rfl rfl ?_
      refine ax_s (pc' := 49) (st' := [.int (nI i), .int ((40 * (nI r)) + (nI f)), .ref 288, .int (m_lean S2 298 g n (S2 298 1))]) rfl rfl rfl rfl ?_
      refine ax_s (pc' := 50) (st' := [.int (((40 * (nI r)) + (nI f)) + (nI i)), .ref 288, .int (m_lean S2 298 g n (S2 298 1))]) rfl rfl rfl rfl ?_
      refine ax_ald (j := (((40 * r) + f) + i)) (v := (S2 288 (((40 * r) + f) + i))) rfl (hh_288 _ _ _) rfl (am_na (x := ((40 * r) + f)) (y := i) (am_na (x := (40 * r)) (y := f) (am_nm (x := 40) (y := r) rfl rfl) rfl) rfl) (x1 c1 S2 hm2 hf2 c3) (by decide) rfl ?_
      refine ax_cmp_ne rfl (fun c4 => ?_) (fun c4 => ?_)
      · refine ax_s (pc' := 59) (st' := [.int 0]) rfl rfl rfl rfl ?_
        refine ax_s (pc' := 61) (ls' := [some (.ref 285), some (.int (nI r)), some (.int (nI f)), some (.int (nI N)), some (.int 0), some (.int (nI i))]) (st' := []) rfl rfl rfl rfl ?_
        refine ax_s (pc' := 64) (ls' := [some (.ref 285), some (.int (nI r)), some (.int (nI f)), some (.int (nI N)), some (.int 0), some (.int ((nI i) + 1))]) (st' := []) rfl rfl rfl rfl ?_
        rw [nI_1]
        refine ax_s (pc' := 6) (st' := []) rfl rfl rfl rfl ?_
        exact k3 c1 S2 hm2 hf2 c3 c4
      · refine ax_s (pc' := 55) (st' := [.int 1]) rfl rfl rfl rfl ?_
        refine ax_s (pc' := 59) (st' := [.int 1]) rfl rfl rfl rfl ?_
        refine ax_s (pc' := 61) (ls' := [some (.ref 285), some (.int (nI r)), some (.int (nI f)), some (.int (nI N)), some (.int 1), some (.int (nI i))]) (st' := []) rfl rfl rfl rfl ?_
        refine ax_s (pc' := 64) (ls' := [some (.ref 285), some (.int (nI r)), some (.int (nI f)), some (.int (nI N)), some (.int 1), some (.int ((nI i) + 1))]) (st' := []) rfl rfl rfl rfl ?_
        rw [nI_1]
        refine ax_s (pc' := 6) (st' := []) rfl rfl rfl rfl ?_
        exact k4 c1 S2 hm2 hf2 c3 c4
theorem wp_isSo {d : Nat} {X : Nat × (Nat → Int32)} {S : Nat → Nat → Int32} {L : Nat → Int64} {r f N : Nat} {Q : Option Value → am_H → Prop}  (k1 : am_ex (d + 8) 214 6 [some (.ref 285), some (.int (nI r)), some (.int (nI f)), some (.int (nI N)), some (.int 1), some (.int 0)] [] (am_hh X S L) Q) : am_mt (d + 8) 214 [.ref 285, .int (nI r), .int (nI f), .int (nI N)] (am_hh X S L) Q := by
  refine ax_in (ls := [some (.ref 285), some (.int (nI r)), some (.int (nI f)), some (.int (nI N)), none, none]) rfl ?_
  refine ax_s (pc' := 1) (st' := [.int 1]) rfl rfl rfl rfl ?_
  refine ax_s (pc' := 3) (ls' := [some (.ref 285), some (.int (nI r)), some (.int (nI f)), some (.int (nI N)), some (.int 1), none]) (st' := []) rfl rfl rfl rfl ?_
  refine ax_s (pc' := 4) (st' := [.int 0]) rfl rfl rfl rfl ?_
  refine ax_s (pc' := 6) (ls' := [some (.ref 285), some (.int (nI r)), some (.int (nI f)), some (.int (nI N)), some (.int 1), some (.int 0)]) (st' := []) rfl rfl rfl rfl ?_
  exact k1
