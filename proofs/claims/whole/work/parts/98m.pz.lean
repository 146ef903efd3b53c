def WP (W : Nat → Nat → Int32) (b : Nat → Int32) (len p : Nat) : Prop := W 0 0 = pz_g b len ∧ W 0 1 = pz_l b len ∧ W 0 2 = 0 ∧ W 0 3 = 0 ∧ W 0 4 = nI p ∧ (∀ i, i < 12 → W 1 i = 0) ∧ ∀ q, q < p → (W 2 q = pz_k b len (pz_st b len q) ∧ W 3 q = pz_w b len (pz_st b len q) ∧ W 4 q = pz_r b len (pz_st b len q)) ∧ W 5 q = 0 ∧ W 7 q = 0 ∧ W 8 q = 0
def RI (b : Nat → Int32) (len : Nat) (S S' : Nat → Nat → Int32) (j : Nat) : Prop := TH S S' ∧ TP b len S' (pz_st b len j) ∧ w_cl (am_sub S' 29) ∧ ((pz_st b len j).1 = 0 → WP (am_sub S' 29) b len j ∧ j ≤ 6)
def MH (S S' : Nat → Nat → Int32) : Prop := (∀ x, x ≠ 285 → ¬ (300 ≤ x ∧ x ≤ 303) → S' x = S x) ∧ ∀ i, i ≠ 21 → i ≠ 22 → i ≠ 23 → i ≠ 24 → S' 285 i = S 285 i
def RM (b : Nat → Int32) (len : Nat) (S S' : Nat → Nat → Int32) (j : Nat) : Prop := MH S S' ∧ MP b len S' (pz_st b len j) ∧ ((pz_st b len j).1 = 0 → S' 285 24 = nI j ∧ j ≤ 6 ∧ S' 300 0 = pz_g b len ∧ S' 300 1 = pz_l b len ∧ ∀ q, q < j → S' 301 q = pz_k b len (pz_st b len q) ∧ S' 302 q = pz_w b len (pz_st b len q) ∧ S' 303 q = pz_r b len (pz_st b len q))
section PZ7
variable {d : Nat} {X : Nat × (Nat → Int32)} {S S0 S1 S2 : Nat → Nat → Int32} {L : Nat → Int64} {b : Nat → Int32} {len p j : Nat} {s : Int32 × Nat} {Q : Option Value → am_H → Prop} {W : Nat → Nat → Int32}
theorem WP_0 : WP (w_bg W (pz_g b len) (pz_l b len)) b len 0 := by
  unfold WP w_bg
  refine ⟨?_, ?_, ?_, ?_, ?_, fun i hi => ?_, fun q hq => absurd hq (by omega)⟩
  · rw [w_z1_at, if_neg (by omega)]; rfl
  · rw [w_z1_at, if_neg (by omega)]; rfl
  · rw [w_z1_at, if_neg (by omega)]; rfl
  · rw [w_z1_at, if_neg (by omega)]; rfl
  · rw [w_z1_at, if_neg (by omega)]; rfl
  · rw [w_z1_at, if_pos (by omega)]
theorem ap2_at {k w r : Int32} (c i : Nat) : w_ap2 W p k w r c i = if c = 8 ∧ i = p then 0 else if c = 7 ∧ i = p then 0 else if c = 5 ∧ i = p then 0 else if c = 0 ∧ i = 4 then nI (p + 1) else if c = 4 ∧ i = p then r else if c = 3 ∧ i = p then w else if c = 2 ∧ i = p then k else W c i := by
  unfold w_ap2 w_ca
  rw [am_u_at, am_u_at, am_u_at, am_u_at, am_u_at, am_u_at, am_u_at]
theorem WP_s (h : WP W b len p) : WP (w_ap2 W p (pz_k b len (pz_st b len p)) (pz_w b len (pz_st b len p)) (pz_r b len (pz_st b len p))) b len (p + 1) := by
  obtain ⟨h1, h2, h3, h4, h5, h6, h7⟩ := h
  refine ⟨?_, ?_, ?_, ?_, ?_, fun i hi => ?_, fun q hq => ?_⟩
  · rw [ap2_at, if_neg (by omega), if_neg (by omega), if_neg (by omega), if_neg (by omega), if_neg (by omega), if_neg (by omega), if_neg (by omega)]; exact h1
  · rw [ap2_at, if_neg (by omega), if_neg (by omega), if_neg (by omega), if_neg (by omega), if_neg (by omega), if_neg (by omega), if_neg (by omega)]; exact h2
  · rw [ap2_at, if_neg (by omega), if_neg (by omega), if_neg (by omega), if_neg (by omega), if_neg (by omega), if_neg (by omega), if_neg (by omega)]; exact h3
  · rw [ap2_at, if_neg (by omega), if_neg (by omega), if_neg (by omega), if_neg (by omega), if_neg (by omega), if_neg (by omega), if_neg (by omega)]; exact h4
  · rw [ap2_at, if_neg (by omega), if_neg (by omega), if_neg (by omega), if_pos (by omega)]
  · rw [ap2_at, if_neg (by omega), if_neg (by omega), if_neg (by omega), if_neg (by omega), if_neg (by omega), if_neg (by omega), if_neg (by omega)]; exact h6 i hi
  · by_cases e : q = p
    · subst e
      refine ⟨⟨?_, ?_, ?_⟩, ?_, ?_, ?_⟩
      · rw [ap2_at, if_neg (by omega), if_neg (by omega), if_neg (by omega), if_neg (by omega), if_neg (by omega), if_neg (by omega), if_pos (by omega)]
      · rw [ap2_at, if_neg (by omega), if_neg (by omega), if_neg (by omega), if_neg (by omega), if_neg (by omega), if_pos (by omega)]
      · rw [ap2_at, if_neg (by omega), if_neg (by omega), if_neg (by omega), if_neg (by omega), if_pos (by omega)]
      · rw [ap2_at, if_neg (by omega), if_neg (by omega), if_pos (by omega)]
      · rw [ap2_at, if_neg (by omega), if_pos (by omega)]
      · rw [ap2_at, if_pos (by omega)]
    · have hx : ∀ c, 2 ≤ c → w_ap2 W p (pz_k b len (pz_st b len p)) (pz_w b len (pz_st b len p)) (pz_r b len (pz_st b len p)) c q = W c q := fun c hc => by
        rw [ap2_at, if_neg (by omega), if_neg (by omega), if_neg (by omega), if_neg (by omega), if_neg (by omega), if_neg (by omega), if_neg (by omega)]
      rw [hx 2 (by omega), hx 3 (by omega), hx 4 (by omega), hx 5 (by omega), hx 7 (by omega), hx 8 (by omega)]
      exact h7 q (by omega)
theorem kt_rl (hT : TP b len S (0, 0)) (hc : w_cl (am_sub S 29)) (hQ : ∀ S', RI b len S S' 0 → Q none (am_hh X S' L)) : am_mt (d + 5) 30 [.ref 18, .ref 29] (am_hh X S L) Q :=
  kt_readLaw hT hc (fun S' t u c w => hQ S' ⟨t, u, c, fun z => ⟨by rw [w z]; exact WP_0, by omega⟩⟩)
theorem pz_st_n (h : ¬ (pz_st b len j).1 = 0) : pz_st b len (j + 1) = pz_st b len j := by
  show pz_pt b len _ (pz_st b len j) = _
  unfold pz_pt
  rw [n_sort h, n_num h, n_sign h, n_num h, n_sign h]
theorem kt_rp (h : RI b len S0 S j) (hQ : ∀ S', RI b len S0 S' (j + 1) → Q none (am_hh X S' L)) : am_mt (d + 5) 37 [.ref 18, .ref 29] (am_hh X S L) Q := by
  obtain ⟨t, u, c, w⟩ := h
  by_cases e : (pz_st b len j).1 = 0
  · obtain ⟨w1, w2⟩ := w e
    refine kt_readParty (p := j) u w1.2.2.2.2.1 w2 c (fun S' t' u' c' w' => hQ S' ⟨TH_t t t', u', c', fun z => ?_⟩)
    obtain ⟨x1, x2⟩ := w' z
    refine ⟨?_, by omega⟩
    rw [x2]
    exact WP_s w1
  · refine kt_readParty0 u e (fun S' t' u' => hQ S' ⟨TH_t t (TF_H t'), ?_, ?_, fun z => ?_⟩)
    · rw [pz_st_n e]; exact u'
    · rw [TF_29 t']; exact c
    · rw [pz_st_n e] at z; exact absurd z e
theorem MG_H (h : MG S S1) : MH S S1 := ⟨fun x h1 _ => h.1 x h1, fun i h1 h2 h3 _ => h.2 i h1 h2 h3⟩
theorem MH_t (h : MH S S1) (h' : MH S1 S2) : MH S S2 := ⟨fun x h1 h2 => (h'.1 x h1 h2).trans (h.1 x h1 h2), fun i h1 h2 h3 h4 => (h'.2 i h1 h2 h3 h4).trans (h.2 i h1 h2 h3 h4)⟩
theorem MH_u {c i : Nat} {v : Int32} (hc : 300 ≤ c ∧ c ≤ 303) : MH S (am_u S c i v) := ⟨fun x _ h2 => am_u_ne _ (by omega), fun i _ _ _ _ => by rw [am_u_ne _ (by omega)]⟩
theorem MH_5 {i : Nat} {v : Int32} (hc : i = 21 ∨ i = 22 ∨ i = 23 ∨ i = 24) : MH S (am_u S 285 i v) := ⟨fun x h1 _ => am_u_ne _ h1, fun i _ _ _ _ => am_u_ni _ (by omega)⟩
theorem mt_rp (h : RM b len S0 S j) (h0 : (pz_st b len j).1 = 0) (hQ : ∀ S', RM b len S0 S' (j + 1) → Q none (am_hh X S' L)) : am_mt (d + 5) 165 [.ref 285] (am_hh X S L) Q := by
  obtain ⟨m, u, w⟩ := h
  have hu := u
  obtain ⟨u1, u2, u3, u4, ⟨c, c1, c2, c3⟩, u6, u7⟩ := u
  have ec := c3 h0
  subst ec
  obtain ⟨w1, w2, w3, w4, w5⟩ := w h0
  have hn1 : ¬ ((1 : Int32), (pz_st b len j).2).1 = 0 := show ¬ (1 : Int32) = 0 by decide
  have hn3 : ¬ ((3 : Int32), (pz_st b len j).2).1 = 0 := show ¬ (3 : Int32) = 0 by decide
  have e6 : S 285 24 = 6 ↔ j = 6 := by
    rw [w1, show (6 : Int32) = nI 6 from rfl, nI_eq (by omega) (by omega)]
  refine wp_mreadParty (p := j) (s1 := (0, (pz_st b len j).2 + 1)) c2 (by omega) u2 u3 u7 w1 (fun k => ?_) (fun _ k => ?_) (fun _ k => ?_) (fun k1 k2 => ?_) ?_ (fun _ _ k => ?_) (fun k1 k2 k3 => ?_)
  · have := pz_kind_lt k
    have := (MP_a (v := S 285 21 + 1) (a' := (pz_st b len j).2 + 1) hu h0 (by rw [c2, nI_1]) (by omega)).1
    rw [h0] at this
    exact this
  · rw [e6] at k; omega
  · rw [u1] at k; exact absurd h0 k
  · have e : pz_st b len (j + 1) = (1, (pz_st b len j).2) := by
      show pz_pt b len _ (pz_st b len j) = _
      unfold pz_pt
      have e1 : ∀ r, pz_sort b len r (pz_st b len j) = (1, (pz_st b len j).2) := fun r => by
        unfold pz_sort; rw [if_pos h0, if_pos k1]
      rw [e1, n_num hn1, n_sign hn1, n_num hn1, n_sign hn1]
    have := MP_f hu h0 (f := 1)
    refine hQ _ ⟨MH_t m (MG_H this.2), by rw [e]; exact this.1, fun z => ?_⟩
    rw [e] at z
    exact absurd (show (1 : Int32) = 0 from z) (by decide)
  · intro k1 k2 v5 S5 t5 p5 z5 S6 t6 p6 v7 S7 t7 p7 z7 S8 t8 p8
    rw [e6] at k2
    have e : pz_st b len (j + 1) = pz_sign b len 59 (pz_num b len 1 4 (pz_sign b len 44 (pz_num b len 1 9 (0, (pz_st b len j).2 + 1)))) := by
      show pz_pt b len _ (pz_st b len j) = _
      unfold pz_pt
      have e1 : pz_sort b len (decide (j < 6)) (pz_st b len j) = (0, (pz_st b len j).2 + 1) := by
        unfold pz_sort; rw [if_pos h0, if_neg k1, if_pos (decide_eq_true (by omega))]
      rw [e1]
    have e24 : S8 285 24 = nI j := by
      rw [t8.2 24 (by omega) (by omega) (by omega), am_u_ne _ (by omega), t7.2 24 (by omega) (by omega) (by omega), t6.2 24 (by omega) (by omega) (by omega), am_u_ne _ (by omega), t5.2 24 (by omega) (by omega) (by omega), am_u_ne _ (by omega), am_u_ni _ (by omega)]; exact w1
    refine hQ _ ⟨?_, ?_, fun z => ⟨?_, by omega, ?_, ?_, fun q hq => ?_⟩⟩
    · exact MH_t m (MH_t (MH_5 (Or.inl rfl)) (MH_t (MH_u (by decide)) (MH_t (MG_H t5) (MH_t (MH_u (by decide)) (MH_t (MG_H t6) (MH_t (MG_H t7) (MH_t (MH_u (by decide)) (MH_t (MG_H t8) (MH_5 (by omega))))))))))
    · rw [e]; exact MP_24 p8
    · rw [am_u_eq, e24, nI_1]
    · rw [am_u_ne _ (by omega), t8.1 300 (by omega), am_u_ne _ (by omega), t7.1 300 (by omega), t6.1 300 (by omega), am_u_ne _ (by omega), t5.1 300 (by omega), am_u_ne _ (by omega), am_u_ne _ (by omega)]; exact w3
    · rw [am_u_ne _ (by omega), t8.1 300 (by omega), am_u_ne _ (by omega), t7.1 300 (by omega), t6.1 300 (by omega), am_u_ne _ (by omega), t5.1 300 (by omega), am_u_ne _ (by omega), am_u_ne _ (by omega)]; exact w4
    · have y1 : (pz_num b len 1 4 (pz_sign b len 44 (pz_num b len 1 9 (0, (pz_st b len j).2 + 1)))).1 = 0 := by
        rw [e] at z; exact z_sign z
      have y3 := z_sign (z_num y1).1
      have e5 : v5 = pz_w b len (pz_st b len j) := z5 y3
      have e7 : v7 = pz_r b len (pz_st b len j) := z7 y1
      have f1 : (am_u S8 285 24 (S8 285 24 + 1)) 301 q = if q = j then pz_k b len (pz_st b len j) else S 301 q := by
        rw [am_u_ne _ (by omega), t8.1 301 (by omega), am_u_ne _ (by omega), t7.1 301 (by omega), t6.1 301 (by omega), am_u_ne _ (by omega), t5.1 301 (by omega), am_u_at, am_u_ne _ (by omega)]
        by_cases e : q = j
        · rw [if_pos ⟨rfl, e⟩, if_pos e]; rfl
        · rw [if_neg (by omega), if_neg e]
      have f2 : (am_u S8 285 24 (S8 285 24 + 1)) 302 q = if q = j then pz_w b len (pz_st b len j) else S 302 q := by
        rw [am_u_ne _ (by omega), t8.1 302 (by omega), am_u_ne _ (by omega), t7.1 302 (by omega), t6.1 302 (by omega), am_u_at, t5.1 302 (by omega), am_u_ne _ (by omega), am_u_ne _ (by omega), e5]
        by_cases e : q = j
        · rw [if_pos ⟨rfl, e⟩, if_pos e]
        · rw [if_neg (by omega), if_neg e]
      have f3 : (am_u S8 285 24 (S8 285 24 + 1)) 303 q = if q = j then pz_r b len (pz_st b len j) else S 303 q := by
        rw [am_u_ne _ (by omega), t8.1 303 (by omega), am_u_at, t7.1 303 (by omega), t6.1 303 (by omega), am_u_ne _ (by omega), t5.1 303 (by omega), am_u_ne _ (by omega), am_u_ne _ (by omega), e7]
        by_cases e : q = j
        · rw [if_pos ⟨rfl, e⟩, if_pos e]
        · rw [if_neg (by omega), if_neg e]
      rw [f1, f2, f3]
      by_cases e : q = j
      · subst e
        rw [if_pos rfl, if_pos rfl, if_pos rfl]
        exact ⟨rfl, rfl, rfl⟩
      · rw [if_neg e, if_neg e, if_neg e]
        exact w5 q (by omega)
  · rw [u1] at k; exact absurd h0 k
  · rw [e6] at k2
    have e : pz_st b len (j + 1) = (3, (pz_st b len j).2) := by
      show pz_pt b len _ (pz_st b len j) = _
      unfold pz_pt
      have e1 : pz_sort b len (decide (j < 6)) (pz_st b len j) = (3, (pz_st b len j).2) := by
        unfold pz_sort; rw [if_pos h0, if_neg k1, if_neg (by rw [decide_eq_false (by omega)]; decide)]
      rw [e1, n_num hn3, n_sign hn3, n_num hn3, n_sign hn3]
    have := MP_f hu h0 (f := 3)
    refine hQ _ ⟨MH_t m (MG_H this.2), by rw [e]; exact this.1, fun z => ?_⟩
    rw [e] at z
    exact absurd (show (3 : Int32) = 0 from z) (by decide)
end PZ7
