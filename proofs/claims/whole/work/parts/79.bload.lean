section BLOAD
variable {X : Nat × (Nat → Int32)} {S : Nat → Nat → Int32} {L : Nat → Int64} {g n : Nat}
theorem eg_bear (j : JW S g n) {p : Int32} : eg_k_bear S p = eg_m_bear S p := eg_s1 (gs_iff j) not_or _ _ _
theorem eg_load (j : JW S g n) {p q : Int32} : eg_k_load S p q = eg_m_load S p q := eg_s2 (gs_iff j) not_or not_or _ _ _
theorem bo_bear (J : JJ S) (p : Int32) : BO X 99 205 [.int p] S L := by
  have J0 := J
  obtain ⟨g, n, m, k, jR, jT, jF, jW, jK, jA, jI, jP, jQ, jC⟩ := J
  have hiff : g_k_bear S p ↔ g_m_bear S p := by
    unfold g_k_bear g_m_bear
    rw [gs_iff jW, not_or]
  by_cases hg : g_k_bear S p
  · have hgm := hiff.mp hg
    obtain ⟨-, hR, -⟩ := gs_y jW hg.1
    obtain ⟨t, -, ht, rfl⟩ := go_i (a := 1) (b := 40) (by omega) (by omega) hg.2
    have hf := JW_wF jW
    refine bo_scr J0 (wv_k_bear (d := 31) hf (jC 29 isW29) (jC 20 isW20) hg (by omega) (fun W1 h1 => ⟨_, _, rfl, rfl, FR_o h1⟩)) ?_
    intro S1 L1 hfr J1
    have hg1 : g_m_bear S1 (nI t) := by
      unfold g_m_bear
      rw [FR_285 hfr]
      exact hgm
    have hR1 := FR_m hfr hR
    have hK1 := FR_K hfr jK
    refine wv_m_bear (d := 31) hg1 ?_
    have key : ∀ (k v : Nat) (S2 : Nat → Nat → Int32), v + k = 100 → F8 S1 S2 → am_ex (31 + 8) 205 25 [some (.ref 285), some (.int (nI t)), some (.int (nI v))] [] (am_hh X S2 L1) (am_fr X (.int (w_br (am_sub S 20) g n t k v)) S1) := by
      intro k
      induction k with
      | zero =>
        intro v S2 hv hf2
        have : v = 100 := by omega
        subst this
        exact wl_mbear (d := 31) hR1 hK1 hf2 (fun c => absurd (by decide) c) (fun _ => ⟨_, _, rfl, rfl, F8_FR hfr.2.2.2 hf2⟩) (fun c => absurd (by decide) c) (fun c => absurd (by decide) c)
      | succ k ih =>
        intro v S2 hv hf2
        have e : w_sn rk0 g n t (am_u (am_sub S 20) 0 1 (nI v)) 0 = nI (0 + w_cn rk0 g n t (am_u (am_sub S 20) 0 1 (nI v))) := w_sn_cn t _ 0
        have hcl := w_cn_le (rk := rk0) (g := g) (n := n) t (am_u (am_sub S 20) 0 1 (nI v))
        refine wl_mbear (d := 31) hR1 hK1 hf2 (fun _ _ _ _ => by omega) (fun c => absurd c (nI_nlt (a := 99) (by omega) (by omega))) (fun _ S3 hm3 hf3 S4 hm4 hf4 c => ?_) (fun _ S3 hm3 hf3 S4 hm4 hf4 c => ?_)
        · have hft := F8_t hf2 (F8_t (F8_u hf3) hf4)
          rw [e, show (0 : Int32) = nI 0 from rfl, nI_eq (by omega) (by omega)] at c
          unfold w_br
          rw [if_neg (by omega)]
          exact ih (v + 1) S4 (by omega) hft
        · have hft := F8_t hf2 (F8_t (F8_u hf3) hf4)
          rw [e, show (0 : Int32) = nI 0 from rfl, nI_eq (by omega) (by omega)] at c
          unfold w_br
          rw [if_pos (by omega)]
          exact ⟨_, _, rfl, rfl, F8_FR hfr.2.2.2 hft⟩
    exact key 99 1 S1 (by omega) F8_r
  · have hgm := fun z => hg (hiff.mpr z)
    refine bo_ro (v := .int (eg_k_bear S p)) J0 (wg_k_bear (d := 31) hg am_is_i) (wg_m_bear (d := 31) hgm ⟨?_, rfl⟩)
    rw [eg_bear jW]
theorem ld_v_s (W : Nat → Nat → Int32) (m gi : Nat) : ∀ (k v : Nat) (q : Nat × Nat), ∃ q', ld_v W g n m gi k v (some q) = some q'
  | 0, _, q => ⟨q, rfl⟩
  | k + 1, v, q => by
    unfold ld_v ld_s
    dsimp only
    split
    · exact ld_v_s W m gi k _ _
    · exact ld_v_s W m gi k _ _
theorem ld_g_s (W : Nat → Nat → Int32) (m : Nat) : ∀ (k gi : Nat) (q : Nat × Nat), ∃ q', ld_g W g n m k gi (some q) = some q'
  | 0, _, q => ⟨q, rfl⟩
  | k + 1, gi, q => by
    unfold ld_g
    obtain ⟨q', e⟩ := ld_v_s (g := g) (n := n) W m gi 9 1 q
    rw [e]
    exact ld_g_s W m k _ _
/-- the model's words for what is best so far -/
def ldM (st : Option (Nat × Nat)) (a b : Int32) : Prop := match st with
  | none => a = -1000000
  | some (x, y) => a = nI x ∧ x < 1000 ∧ b = nI y ∧ y ≤ 1000
theorem bo_load (J : JJ S) (p q : Int32) : BO X 96 204 [.int p, .int q] S L := by
  have J0 := J
  obtain ⟨g, n, m, k, jR, jT, jF, jW, jK, jA, jI, jP, jQ, jC⟩ := J
  have hiff : g_k_load S p q ↔ g_m_load S p q := by
    unfold g_k_load g_m_load
    rw [gs_iff jW, not_or, not_or]
  by_cases hg : g_k_load S p q
  · have hgm := hiff.mp hg
    obtain ⟨-, hR, -⟩ := gs_y jW hg.1
    obtain ⟨t, -, ht, rfl⟩ := go_i (a := 1) (b := 40) (by omega) (by omega) hg.2.1
    have hf := JW_wF jW
    have hg4 := hR.2.1.2.2
    obtain ⟨st, est⟩ : ∃ st, ld_g (am_sub S 20) g n t g 0 none = st := ⟨_, rfl⟩
    have hs : ∃ x y, st = some (x, y) := by
      rw [← est]
      obtain ⟨g', eg⟩ : ∃ g', g = g' + 1 := ⟨g - 1, by omega⟩
      have e1 : ∀ g0, ∃ q', ld_g (am_sub S 20) g0 n t (g' + 1) 0 none = some q' := fun g0 => by
        unfold ld_g ld_v ld_s
        dsimp only
        obtain ⟨q1, e1⟩ := ld_v_s (g := g0) (n := n) (am_sub S 20) t 0 8 (1 + 1) (10 * 0 + 1, w_cn rk0 g0 n t (am_u (am_sub S 20) 1 0 (nI 1)))
        rw [e1]
        exact ld_g_s (am_sub S 20) t g' _ _
      obtain ⟨q', e2⟩ := e1 g
      refine ⟨q'.1, q'.2, ?_⟩
      rw [← e2, ← eg]
    obtain ⟨x, y, rfl⟩ := hs
    refine bo_scr (v := .int (if q = 0 then nI x else nI y)) J0 (wv_k_load (d := 31) hf (jC 29 isW29) (jC 20 isW20) hg (by omega) ?_ ?_) ?_
    · intro S1 b1 e1 h1 r1 c
      rw [est] at e1
      subst e1
      rw [h1.2, if_neg c]
      exact ⟨_, _, rfl, rfl, r1⟩
    · intro S1 b1 e1 h1 r1 c
      rw [est] at e1
      subst e1
      rw [h1.1, if_pos c]
      exact ⟨_, _, rfl, rfl, r1⟩
    intro S1 L1 hfr J1
    have hg1 : g_m_load S1 (nI t) q := by
      unfold g_m_load
      rw [FR_285 hfr]
      exact hgm
    have hR1 := FR_m hfr hR
    have hK1 := FR_K hfr jK
    refine wv_m_load (d := 31) hg1 ?_
    have inner : ∀ (k v j : Nat) (st : Option (Nat × Nat)) (S2 : Nat → Nat → Int32) (a b : Int32) (x7 x8 : Option Value), v + k = 10 → j < 12 → F8 S1 S2 → ldM st a b → (∀ (S3 : Nat → Nat → Int32) (a' b' : Int32) (y6 y7 y8 : Option Value), F8 S1 S3 → ldM (ld_v (am_sub S 20) g n t j k v st) a' b' → am_ex (31 + 8) 204 41 [some (.ref 285), some (.int (nI t)), some (.int q), some (.int a'), some (.int b'), some (.int (nI (j + 1))), y6, y7, y8] [] (am_hh X S3 L1) (am_fr X (.int (if q = 0 then nI x else nI y)) S1)) → am_ex (31 + 8) 204 53 [some (.ref 285), some (.int (nI t)), some (.int q), some (.int a), some (.int b), some (.int (nI j)), some (.int (nI v)), x7, x8] [] (am_hh X S2 L1) (am_fr X (.int (if q = 0 then nI x else nI y)) S1) := by
      intro k
      induction k with
      | zero =>
        intro v j st S2 a b x7 x8 hv hj hf2 hst hk
        have : v = 10 := by omega
        subst this
        exact wl_mload2 (d := 31) hR1 hK1 hf2 hj (fun c => absurd (by decide) c) (fun c => absurd (by decide) c) (fun _ => hk _ _ _ _ _ _ hf2 hst) (fun c => absurd (by decide) c) (fun c => absurd (by decide) c) (fun c => absurd (by decide) c)
      | succ k ih =>
        intro v j st S2 a b x7 x8 hv hj hf2 hst hk
        have e : w_sn rk0 g n t (am_u (am_sub S 20) 1 j (nI v)) 0 = nI (0 + w_cn rk0 g n t (am_u (am_sub S 20) 1 j (nI v))) := w_sn_cn t _ 0
        rw [Nat.zero_add] at e
        have hcl := w_cn_le (rk := rk0) (g := g) (n := n) t (am_u (am_sub S 20) 1 j (nI v))
        have ec : (10 : Int32) * nI j + nI v = nI (10 * j + v) := by rw [show (10 : Int32) = nI 10 from rfl, pk_mul, nI_add]
        refine wl_mload2 (d := 31) hR1 hK1 hf2 hj (fun _ _ _ _ => by omega) (fun _ _ _ _ => by omega) (fun c => absurd c (nI_ge (b := 10) (by omega) (by omega))) (fun _ S3 hm3 hf3 S4 hm4 hf4 c => ?_) (fun _ S3 hm3 hf3 S4 hm4 hf4 c c2 => ?_) (fun _ S3 hm3 hf3 S4 hm4 hf4 c c2 => ?_)
        · have hft := F8_t hf2 (F8_t (F8_u hf3) hf4)
          cases st with
          | some q0 =>
            exfalso
            obtain ⟨h1, h2, -⟩ := hst
            rw [h1] at c
            have c' := congrArg Int32.toInt c
            rw [nI_toInt (by omega)] at c'
            have : (-1000000 : Int32).toInt = -1000000 := by decide
            omega
          | none =>
            rw [ec, e]
            refine ih (v + 1) j (some (10 * j + v, w_cn rk0 g n t (am_u (am_sub S 20) 1 j (nI v)))) S4 _ _ _ _ (by omega) hj hft ⟨rfl, by omega, rfl, by omega⟩ ?_
            exact hk
        · have hft := F8_t hf2 (F8_t (F8_u hf3) hf4)
          cases st with
          | none => exact absurd hst c
          | some q0 =>
            obtain ⟨h1, h2, h3, h4⟩ := hst
            rw [h3, e, nI_leI (by omega) (by omega)] at c2
            refine ih (v + 1) j (some q0) S4 _ _ _ _ (by omega) hj hft ⟨h1, h2, h3, h4⟩ (fun S5 a' b' y6 y7 y8 q1 q2 => hk S5 a' b' y6 y7 y8 q1 ?_)
            unfold ld_v ld_s
            dsimp only
            rw [if_neg (by omega)]
            exact q2
        · have hft := F8_t hf2 (F8_t (F8_u hf3) hf4)
          cases st with
          | none => exact absurd hst c
          | some q0 =>
            obtain ⟨h1, h2, h3, h4⟩ := hst
            rw [h3, e, nI_leI (by omega) (by omega)] at c2
            rw [ec, e]
            refine ih (v + 1) j (some (10 * j + v, w_cn rk0 g n t (am_u (am_sub S 20) 1 j (nI v)))) S4 _ _ _ _ (by omega) hj hft ⟨rfl, by omega, rfl, by omega⟩ (fun S5 a' b' y6 y7 y8 q1 q2 => hk S5 a' b' y6 y7 y8 q1 ?_)
            unfold ld_v ld_s
            dsimp only
            rw [if_pos (by omega)]
            exact q2
    have outer : ∀ (k j : Nat) (st : Option (Nat × Nat)) (S2 : Nat → Nat → Int32) (a b : Int32) (x6 x7 x8 : Option Value), j + k = g → F8 S1 S2 → ldM st a b → ld_g (am_sub S 20) g n t k j st = some (x, y) → am_ex (31 + 8) 204 41 [some (.ref 285), some (.int (nI t)), some (.int q), some (.int a), some (.int b), some (.int (nI j)), x6, x7, x8] [] (am_hh X S2 L1) (am_fr X (.int (if q = 0 then nI x else nI y)) S1) := by
      intro k
      induction k with
      | zero =>
        intro j st S2 a b x6 x7 x8 hj hf2 hst hk
        have e0 : S2 285 8 = nI g := by rw [hf2 285 (by omega)]; exact hR1.2.1.2.1
        have hk' : st = some (x, y) := hk
        subst hk'
        obtain ⟨h1, h2, h3, h4⟩ := hst
        refine wl_mload1 (d := 31) hR1 hK1 hf2 (fun _ c => ?_) (fun _ c => ?_) (fun c => absurd (by rw [e0]; exact nI_le (by omega) (by omega)) c)
        · rw [if_neg c, h3]
          exact ⟨_, _, rfl, rfl, F8_FR hfr.2.2.2 hf2⟩
        · rw [if_pos c, h1]
          exact ⟨_, _, rfl, rfl, F8_FR hfr.2.2.2 hf2⟩
      | succ k ih =>
        intro j st S2 a b x6 x7 x8 hj hf2 hst hk
        have e0 : S2 285 8 = nI g := by rw [hf2 285 (by omega)]; exact hR1.2.1.2.1
        refine wl_mload1 (d := 31) hR1 hK1 hf2 (fun c => absurd c (by rw [e0]; exact nI_ge (by omega) (by omega))) (fun c => absurd c (by rw [e0]; exact nI_ge (by omega) (by omega))) (fun _ => ?_)
        exact inner 9 1 j st S2 a b x7 x8 (by omega) (by omega) hf2 hst (fun S3 a' b' y6 y7 y8 q1 q2 => ih (j + 1) _ S3 a' b' y6 y7 y8 (by omega) q1 q2 hk)
    exact outer g 0 none S1 (-1000000) 0 none none none (by omega) F8_r rfl est
  · have hgm := fun z => hg (hiff.mpr z)
    refine bo_ro (v := .int (eg_k_load S p q)) J0 (wg_k_load (d := 31) hg am_is_i) (wg_m_load (d := 31) hgm ⟨?_, rfl⟩)
    rw [eg_load jW]
end BLOAD
