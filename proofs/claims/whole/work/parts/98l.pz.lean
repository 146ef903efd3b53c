theorem w_z1_at : ∀ (k j : Nat) (W : Nat → Nat → Int32) (c i : Nat), w_z1 k j W c i = if c = 1 ∧ j ≤ i ∧ i < j + k then 0 else W c i := by
  intro k
  induction k with
  | zero => intro j W c i; rw [if_neg (by omega)]; rfl
  | succ k ih =>
    intro j W c i
    show w_z1 k (j + 1) (am_u W 1 j 0) c i = _
    rw [ih, am_u_at]
    by_cases e : c = 1 ∧ j + 1 ≤ i ∧ i < j + 1 + k
    · rw [if_pos e, if_pos (by omega)]
    · rw [if_neg e]
      by_cases e2 : c = 1 ∧ i = j
      · rw [if_pos e2, if_pos (by omega)]
      · rw [if_neg e2, if_neg (by omega)]
theorem w_cl_z1 : ∀ (k j : Nat) (W : Nat → Nat → Int32), j + k ≤ 12 → w_cl W → w_cl (w_z1 k j W) := by
  intro k
  induction k with
  | zero => intro j W _ h; exact h
  | succ k ih => intro j W hj h; exact ih (j + 1) _ (by omega) (w_cl_u h (show j < 12 by omega))
theorem w_cl_bg {W : Nat → Nat → Int32} {x y : Int32} (h : w_cl W) : w_cl (w_bg W x y) := w_cl_z1 12 0 _ (by omega) (w_cl_u (w_cl_u (w_cl_u (w_cl_u (w_cl_u h (show 0 < 5 by decide)) (show 1 < 5 by decide)) (show 2 < 5 by decide)) (show 3 < 5 by decide)) (show 4 < 5 by decide))
section PZ6
variable {d : Nat} {X : Nat × (Nat → Int32)} {S S1 S2 : Nat → Nat → Int32} {L : Nat → Int64} {b : Nat → Int32} {len p : Nat} {s : Int32 × Nat} {Q : Option Value → am_H → Prop}
theorem TF5 {S3 S4 S5 : Nat → Nat → Int32} (h1 : TF S S1) (h2 : TF S1 S2) (h3 : TF S2 S3) (h4 : TF S3 S4) (h5 : TF S4 S5) : TF S S5 := TF_t h1 (TF_t h2 (TF_t h3 (TF_t h4 h5)))
theorem TP_o {W : Nat → Nat → Int32} (h : TP b len S s) : TP b len (am_ovl S 29 W) s := by
  unfold TP
  rw [am_ovl_ne _ _ (by omega), am_ovl_ne _ _ (by omega)]
  exact h
theorem TP_u {c i : Nat} {v : Int32} (h : TP b len S s) (hc : 29 ≤ c) : TP b len (am_u S c i v) s := by
  unfold TP
  rw [am_u_ne _ (by omega), am_u_ne _ (by omega)]
  exact h
theorem TF_29 (h : TF S S1) : am_sub S1 29 = am_sub S 29 := am_sub_c (fun a h1 h2 => h a (by omega))
/-- what reading changes in the class -/
def TH (S S' : Nat → Nat → Int32) : Prop := ∀ x, x ≠ 18 → ¬ (29 ≤ x ∧ x < 38) → S' x = S x
theorem TH_t (h : TH S S1) (h' : TH S1 S2) : TH S S2 := fun x h1 h2 => (h' x h1 h2).trans (h x h1 h2)
theorem TF_H (h : TF S S1) : TH S S1 := fun x h1 _ => h x h1
theorem kt_readLaw (hT : TP b len S (0, 0)) (hc : w_cl (am_sub S 29)) (hQ : ∀ S', TH S S' → TP b len S' (pz_law b len) → w_cl (am_sub S' 29) → ((pz_law b len).1 = 0 → am_sub S' 29 = w_bg (am_sub S 29) (pz_g b len) (pz_l b len)) → Q none (am_hh X S' L)) : am_mt (d + 5) 30 [.ref 18, .ref 29] (am_hh X S L) Q := by
  refine wp_readLaw hT ?_ ?_
  · intro S1 t1 u1 v2 S2 t2 u2 z2 S3 t3 u3 v4 S4 t4 u4 z4 S5 t5 u5 c
    have e := TF5 t1 t2 t3 t4 t5
    rw [u5.1] at c
    exact hQ S5 (TF_H e) u5 (by rw [TF_29 e]; exact hc) (fun z => absurd z c)
  · intro S1 t1 u1 v2 S2 t2 u2 z2 S3 t3 u3 v4 S4 t4 u4 z4 S5 t5 u5 c
    have e := TF5 t1 t2 t3 t4 t5
    rw [u5.1] at c
    have y1 := z_sign c
    have y2 := (z_num y1).1
    have y3 := z_sign y2
    have e2 : v2 = pz_g b len := z2 y3
    have e4 : v4 = pz_l b len := z4 y1
    rw [TF_29 e, e2, e4]
    have hcw : w_cl (w_bg (am_sub S 29) (pz_g b len) (pz_l b len)) := w_cl_bg hc
    refine hQ _ (fun x h1 h2 => ?_) (TP_o u5) ?_ (fun _ => ?_)
    · rw [am_ovl_ne _ _ (by omega)]; exact e x h1
    · rw [am_sub_s S5 hcw]; exact hcw
    · rw [am_sub_s S5 hcw]
theorem kt_readParty0 (hT : TP b len S s) (hs : ¬ s.1 = 0) (hQ : ∀ S', TF S S' → TP b len S' s → Q none (am_hh X S' L)) : am_mt (d + 5) 37 [.ref 18, .ref 29] (am_hh X S L) Q := by
  have n1 : ∀ r, pz_sign b len 59 (pz_num b len 1 4 (pz_sign b len 44 (pz_num b len 1 9 (pz_sort b len r s)))) = s := fun r => by
    rw [n_sort hs, n_num hs, n_sign hs, n_num hs, n_sign hs]
  have hb : ∀ {S' : Nat → Nat → Int32} {r : Bool}, TP b len S' (pz_sign b len 59 (pz_num b len 1 4 (pz_sign b len 44 (pz_num b len 1 9 (pz_sort b len r s))))) → ¬ S' 18 1 = 0 := fun u => by
    rw [n1] at u; rw [u.1]; exact hs
  refine wp_readParty0 hT ?_ ?_ ?_ ?_ ?_ ?_ ?_ ?_ ?_ ?_ ?_ ?_
  all_goals intro c1 v2 S2 t2 u2 z2 v3 S3 t3 u3 z3 S4 t4 u4 v5 S5 t5 u5 z5 S6 t6 u6 c
  all_goals first | exact absurd c (hb u6) | skip
  · rw [n1] at u6; exact hQ S6 (TF5 t2 t3 t4 t5 t6) u6
  · rw [n1] at u6; exact hQ S6 (TF5 t2 t3 t4 t5 t6) u6
theorem w_cl_ap2 {W : Nat → Nat → Int32} {k w r : Int32} (hp : p < 6) (hc : w_cl W) : w_cl (w_ap2 W p k w r) := w_cl_u (w_cl_u (w_cl_u (w_cl_u (w_cl_u (w_cl_u (w_cl_u hc (show p < 6 from hp)) (show p < 6 from hp)) (show p < 6 from hp)) (show 4 < 5 by decide)) (show p < 6 from hp)) (show p < 6 from hp)) (show p < 6 from hp)
theorem ap2_sub {k w r v : Int32} (hv : v = nI (p + 1)) : w_ca (am_sub (am_u (am_u (am_u (am_u S 31 p k) 32 p w) 33 p r) 29 4 v) 29) p = w_ap2 (am_sub S 29) p k w r := by
  unfold w_ap2
  rw [am_sub_u (am_u (am_u (am_u S 31 p k) 32 p w) 33 p r) 29 0 4 v (by decide), am_sub_u (am_u (am_u S 31 p k) 32 p w) 29 4 p r (by decide), am_sub_u (am_u S 31 p k) 29 3 p w (by decide), am_sub_u S 29 2 p k (by decide), hv]
theorem kt_readParty (hT : TP b len S s) (hp : S 29 4 = nI p) (hp6 : p ≤ 6) (hc : w_cl (am_sub S 29)) (hQ : ∀ S', TH S S' → TP b len S' (pz_pt b len (decide (p < 6)) s) → w_cl (am_sub S' 29) → ((pz_pt b len (decide (p < 6)) s).1 = 0 → p < 6 ∧ am_sub S' 29 = w_ap2 (am_sub S 29) p (pz_k b len s) (pz_w b len s) (pz_r b len s)) → Q none (am_hh X S' L)) : am_mt (d + 5) 37 [.ref 18, .ref 29] (am_hh X S L) Q := by
  have h6 : 6 ≤ S 29 4 ↔ p = 6 := by
    rw [hp, show (6 : Int32) = nI 6 from rfl, nI_leI (by omega) (by omega)]
    omega
  have hlt : ∀ {S' : Nat → Nat → Int32}, S' 29 4 = nI p → ¬ S' 29 4 < 0 := fun e => by
    rw [e]; exact nI_pos (by omega)
  have hlt6 : ∀ {S' : Nat → Nat → Int32}, S' 29 4 = nI p → (S' 29 4 < 6 ↔ p < 6) := fun e => by
    rw [e, show (6 : Int32) = nI 6 from rfl, nI_ltI (by omega) (by omega)]
  unfold pz_pt at hQ
  refine wp_readParty hT hp ?_ ?_ ?_ ?_ ?_ ?_ ?_ ?_ ?_ ?_
  all_goals intro c1 v2 S2 t2 u2 z2 v3 S3 t3 u3 z3 S4 t4 u4 v5 S5 t5 u5 z5 S6 t6 u6
  all_goals have e := TF5 t2 t3 t4 t5 t6
  all_goals have e4 : S6 29 4 = nI p := tf_p e hp
  all_goals rw [h6] at c1
  all_goals rw [u6.1]
  · intro _ _ c; rw [hlt6 e4] at c; exact c
  · intro _ _ c; rw [hlt6 e4] at c; exact c
  · intro c
    rw [decide_eq_false (by omega)] at hQ
    exact hQ S6 (TF_H e) u6 (by rw [TF_29 e]; exact hc) (fun z => absurd z c)
  · intro _ c; exact absurd c (hlt e4)
  · intro _ _ c; rw [hlt6 e4] at c; omega
  · intro c
    exact absurd (z_sort (z_num (z_sign (z_num (z_sign c)).1)).1).2.2.1 (by decide)
  · intro c
    rw [decide_eq_true (by omega)] at hQ
    exact hQ S6 (TF_H e) u6 (by rw [TF_29 e]; exact hc) (fun z => absurd z c)
  · intro _ c; exact absurd c (hlt e4)
  · intro c _ c6
    rw [hlt6 e4] at c6
    rw [decide_eq_true c6] at hQ
    have y1 := z_sign c
    have y2 := (z_num y1).1
    have y3 := z_sign y2
    have y4 := z_sort (z_num y3).1
    have e2 : v2 = pz_k b len s := z2 (z_num y3).1
    have e3 : v3 = pz_w b len s := by
      rw [z3 y3, y4.2.2.2]; rfl
    have e5 : v5 = pz_r b len s := by
      rw [z5 y1, y4.2.2.2]; rfl
    have ev : S6 29 4 + 1 = nI (p + 1) := by rw [e4, nI_1]
    rw [ap2_sub ev, TF_29 e, e2, e3, e5]
    have hcw : w_cl (w_ap2 (am_sub S 29) p (pz_k b len s) (pz_w b len s) (pz_r b len s)) := w_cl_ap2 c6 hc
    refine hQ _ (fun x h1 h2 => ?_) (TP_o (TP_u (TP_u (TP_u (TP_u u6 (by omega)) (by omega)) (by omega)) (by omega))) ?_ (fun _ => ⟨c6, ?_⟩)
    · rw [am_ovl_ne _ _ (by omega), am_u_ne _ (by omega), am_u_ne _ (by omega), am_u_ne _ (by omega), am_u_ne _ (by omega)]; exact e x h1
    · rw [am_sub_s _ hcw]; exact hcw
    · rw [am_sub_s _ hcw]
  · intro _ _ c; rw [hlt6 e4] at c; omega
end PZ6
