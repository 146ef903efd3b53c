section ACTS3
variable {X : Nat × (Nat → Int32)} {S : Nat → Nat → Int32} {L : Nat → Int64} {g n m k : Nat}
theorem am_sub_u (S : Nat → Nat → Int32) (w c i : Nat) (v : Int32) (hc : c < 9) : am_sub (am_u S (w + c) i v) w = am_u (am_sub S w) c i v := by
  funext j
  unfold am_sub am_u
  by_cases h : j < 9
  · rw [if_pos h]
    by_cases e : j = c
    · subst e
      rw [if_pos rfl, if_pos rfl]
      dsimp only
      rw [if_pos h]
    · rw [if_neg (by omega), if_neg e]
      dsimp only
      rw [if_pos h]
  · rw [if_neg h, if_neg (by omega)]
    dsimp only
    rw [if_neg h]
theorem JJ_one {S1 S2 S3 S4 : Nat → Nat → Int32} (jR : JR S) (jT : JT S) (jF : JF S) (jW : mR (am_sub S 20) S 293 g n ∧ wG (am_sub S 20) n) (jK : JK S) (jA : JA S g n m k) (jI : JI S) (jQ : JQ S) (jC : JC S) (hn1 : 1 ≤ n)
    (a1 : am_sub S3 (40 + 9 * m) = am_sub S 20) (a2 : ∀ a, ¬ (40 + 9 * m ≤ a ∧ a < 49 + 9 * m) → a ≠ 38 → a ≠ 277 → S3 a = S a) (a3 : S3 38 1 = nI ((m + 1) % 24)) (a4 : S3 38 2 = nI (min (k + 1) 24)) (a5 : S3 277 3 = 0)
    (h1 : ∀ a, ¬ (20 ≤ a ∧ a < 29) → S1 a = S3 a)
    (b1 : ∀ a, a ≠ 285 → a ≠ 294 → S4 a = S1 a) (b2 : ∀ i, i ≠ 14 → S4 285 i = S1 285 i) (b3 : S4 285 14 = nI (min (k + 1) 24)) (b4 : ∀ q y, q < min (k + 1) 24 → y < 39 → S4 294 (39 * q + y) = if q + (k + 1 - min (k + 1) 24) < k then S1 294 (39 * (q + (k + 1 - min (k + 1) 24)) + y) else S1 293 y)
    (h2 : ∀ a, a ≠ 293 → S2 a = S4 a)
    (hm : mR (am_sub S1 20) (mkV (S 285 7) (S 285 8) (S 290) (S 291) (S 292) (S2 293)) 293 g n) (hG : wG (am_sub S1 20) n) (hc : w_cl (am_sub S1 20)) : JJ S2 := by
  have hm24 := jA.1
  have f3 : ∀ a, ¬ (20 ≤ a ∧ a < 29) → ¬ (40 ≤ a ∧ a < 256) → a ≠ 38 → a ≠ 277 → S1 a = S a := fun a c1 c2 c3 c4 => by rw [h1 a c1, a2 a (by omega) c3 c4]
  have e20 : am_sub S2 20 = am_sub S1 20 := am_sub_c (fun a c1 c2 => by rw [h2 a (by omega), b1 a (by omega) (by omega)])
  have f285 : ∀ i, i ≠ 14 → S2 285 i = S 285 i := fun i hi => by rw [h2 285 (by omega), b2 i hi, f3 285 (by omega) (by omega) (by omega) (by omega)]
  have fs : ∀ c, c < 24 → am_sub S2 (40 + 9 * c) = am_sub S3 (40 + 9 * c) := fun c hc => am_sub_c (fun a c1 c2 => by rw [h2 a (by omega), b1 a (by omega) (by omega), h1 a (by omega)])
  refine JJ_act (t := 1) (Ws := fun _ => am_sub S 20) (rows := fun _ => S 293) jR jT jF jK jA jI jQ jC (by omega) hn1 ⟨fun i hi => ?_, fun c hc hi => ?_, ?_, ?_⟩ ⟨?_, fun q y hq hy => ?_⟩ (fun i hi => ⟨?_, jW.2⟩) (fun i hi => jC 20 isW20) ⟨?_, by rw [e20]; exact hG⟩ (by rw [e20]; exact hc) ?_ (fun a c1 c2 c3 c4 c5 c6 c7 => ?_) f285
  · have : i = 0 := by omega
    subst this
    rw [fs _ (Nat.mod_lt _ (by omega)), show (m + 0) % 24 = m by omega]
    exact a1
  · have := hi 0 (by omega)
    rw [fs c hc]
    exact am_sub_c (fun a c1 c2 => a2 a (by omega) (by omega) (by omega))
  · rw [h2 38 (by omega), b1 38 (by omega) (by omega), h1 38 (by omega)]; exact a3
  · rw [h2 38 (by omega), b1 38 (by omega) (by omega), h1 38 (by omega)]; exact a4
  · rw [h2 285 (by omega)]; exact b3
  · rw [h2 294 (by omega), b4 q y hq hy, f3 294 (by omega) (by omega) (by omega) (by omega), f3 293 (by omega) (by omega) (by omega) (by omega)]
  · exact jW.1
  · rw [e20]
    refine mR_c hm (f285 7 (by omega)) (f285 8 (by omega)) (fun _ _ => rfl) (fun p _ => ?_) (fun p _ => ?_) (fun p _ => ?_)
    · rw [h2 290 (by omega), b1 290 (by omega) (by omega), f3 290 (by omega) (by omega) (by omega) (by omega)]; rfl
    · rw [h2 291 (by omega), b1 291 (by omega) (by omega), f3 291 (by omega) (by omega) (by omega) (by omega)]; rfl
    · rw [h2 292 (by omega), b1 292 (by omega) (by omega), f3 292 (by omega) (by omega) (by omega) (by omega)]; rfl
  · rw [h2 277 (by omega), b1 277 (by omega) (by omega), h1 277 (by omega)]; exact a5
  · rw [h2 a c6, b1 a c5 c7, f3 a c1 c2 c3 c4]
theorem gq_iff (j : JW S g n) (p : Int32) : (¬ p < 0 ∧ ¬ S 20 0 ≤ p) ↔ (¬ p < 0 ∧ ¬ S 285 8 - 1 < p) := by
  have hn := JW_g j
  rw [hn.1, hn.2.1, rng_k (by omega), rng_m (by omega)]
theorem gq_j (j : JW S g n) {p : Int32} (h : ¬ p < 0 ∧ ¬ S 20 0 ≤ p) : ∃ i, i < g ∧ p = nI i := by
  have hn := JW_g j
  rw [hn.1, rng_k (by omega)] at h
  exact h
theorem bo_turnTo (J : JJ S) (p : Int32) : BO X 69 184 [.int p] S L := by
  have J0 := J
  obtain ⟨g, n, m, k, jR, jT, jF, jW, jK, jA, jI, jP, jQ, jC⟩ := J
  by_cases hp : ¬ p < 0 ∧ ¬ S 20 0 ≤ p
  · have hp2 := (gq_iff jW p).mp hp
    obtain ⟨j, hj, rfl⟩ := gq_j jW hp
    obtain ⟨hn1, hR, hG⟩ := JW_y jW (Or.inr hj)
    obtain ⟨b, hb, e1, e2⟩ := hR.2.2.1
    have e1' : S 20 2 = nI b := e1
    by_cases he : nI j = S 20 2
    · refine bo_ro (v := .int (-1000002)) J0 (wg_k_turnTo (d := 31) (fun z => z.2 he) ⟨?_, rfl⟩) (wg_m_turnTo (d := 31) (fun z => z.2 ?_) ⟨?_, rfl⟩)
      · unfold eg_k_turnTo; rw [if_pos hp, if_pos he]
      · rw [e2, ← e1', he]
      · unfold eg_m_turnTo; rw [if_pos hp2, if_pos (by rw [e2, ← e1', he])]
    · have jA' := jA
      obtain ⟨m24, k24, m1, k1, k2, -⟩ := jA
      unfold BO
      refine wv_k_turnTo (d := 31) m24 k24 m1 k1 (jC _ (isW_past m24)) (jC 20 isW20) ⟨hp, he⟩ ?_
      intro S3 a1 a2 a3 a4 a5
      have f3 : ∀ a, ¬ (40 ≤ a ∧ a < 256) → a ≠ 38 → a ≠ 277 → S3 a = S a := fun a c1 c2 c3 => a2 a (by omega) c2 c3
      refine ⟨_, _, _, rfl, rfl, ?_⟩
      have g285 : (am_u S3 20 2 (nI j)) 285 = S 285 := by rw [am_u_ne _ (by omega), f3 285 (by omega) (by omega) (by omega)]
      have g293 : (am_u S3 20 2 (nI j)) 293 = S 293 := by rw [am_u_ne _ (by omega), f3 293 (by omega) (by omega) (by omega)]
      refine wv_m_turnTo (d := 31) k24 (by rw [g285]; exact k2) ⟨by rw [g285]; exact hp2, by rw [g293, e2, ← e1']; exact fun z => he z.symm⟩ ?_
      intro S4 b1 b2 b3 b4
      refine ⟨?_, _, _, rfl, ?_⟩
      · rw [g293, e2, f3 20 (by omega) (by omega) (by omega), e1']
      · have e20 : am_sub (am_u S3 20 2 (nI j)) 20 = am_u (am_sub S 20) 0 2 (nI j) := by
          rw [am_sub_u S3 20 0 2 (nI j) (by omega), am_sub_c (S' := S3) (S := S) (fun a c1 c2 => f3 a (by omega) (by omega) (by omega))]
        refine JJ_one (S1 := am_u S3 20 2 (nI j)) (S3 := S3) (S4 := S4) jR jT jF ⟨hR, hG⟩ jK jA' jI jQ jC hn1 a1 a2 a3 a4 a5 (fun a c => am_u_ne _ (by omega)) b1 b2 b3 b4 (fun a c => am_u_ne _ c) ?_ ?_ ?_
        · rw [e20, am_u_self, b1 293 (by omega) (by omega), g293]
          exact mR_bt (Or.inl rfl) hR hj
        · rw [e20]; exact hG
        · rw [e20]; exact w_cl_u (jC 20 isW20) (show 2 < 5 by decide)
  · have hp2 := fun z => hp ((gq_iff jW p).mpr z)
    refine bo_ro (v := .int (-1000001)) J0 (wg_k_turnTo (d := 31) (fun z => hp z.1) ⟨?_, rfl⟩) (wg_m_turnTo (d := 31) (fun z => hp2 z.1) ⟨?_, rfl⟩)
    · unfold eg_k_turnTo; rw [if_neg hp]
    · unfold eg_m_turnTo; rw [if_neg hp2]
theorem bo_ballast (J : JJ S) (p q : Int32) : BO X 71 186 [.int p, .int q] S L := by
  have J0 := J
  obtain ⟨g, n, m, k, jR, jT, jF, jW, jK, jA, jI, jP, jQ, jC⟩ := J
  have hiff : g_k_ballast S p q ↔ g_m_ballast S p q := by
    unfold g_k_ballast g_m_ballast
    rw [gq_iff jW, not_or]
  by_cases hg : g_k_ballast S p q
  · have hgm := hiff.mp hg
    have hg12 := (JW_g jW).2.2
    obtain ⟨j, hj, rfl⟩ := gq_j jW hg.1
    obtain ⟨v, -, hv, rfl⟩ := go_i (a := 0) (b := 9) (by omega) (by omega) hg.2
    obtain ⟨hn1, hR, hG⟩ := JW_y jW (Or.inr hj)
    have jA' := jA
    obtain ⟨m24, k24, m1, k1, k2, -⟩ := jA
    have eb := hR.2.2.2.2.2.1 j (by omega)
    unfold BO
    refine wv_k_ballast (d := 31) m24 k24 m1 k1 (jC _ (isW_past m24)) (jC 20 isW20) hg (fun _ _ _ _ _ _ => by omega) ?_
    intro S3 a1 a2 a3 a4 a5
    have f3 : ∀ a, ¬ (40 ≤ a ∧ a < 256) → a ≠ 38 → a ≠ 277 → S3 a = S a := fun a c1 c2 c3 => a2 a (by omega) c2 c3
    refine ⟨_, _, _, rfl, rfl, ?_⟩
    have g285 : (am_u S3 21 j (nI v)) 285 = S 285 := by rw [am_u_ne _ (by omega), f3 285 (by omega) (by omega) (by omega)]
    have g293 : (am_u S3 21 j (nI v)) 293 = S 293 := by rw [am_u_ne _ (by omega), f3 293 (by omega) (by omega) (by omega)]
    refine wv_m_ballast (d := 31) k24 (by rw [g285]; exact k2) (by rw [g285]; exact hgm) (by omega) ?_
    intro S4 b1 b2 b3 b4
    refine ⟨?_, _, _, rfl, ?_⟩
    · rw [g293, eb, f3 21 (by omega) (by omega) (by omega)]
      rfl
    · have e20 : am_sub (am_u S3 21 j (nI v)) 20 = am_u (am_sub S 20) 1 j (nI v) := by
        have := am_sub_u S3 20 1 j (nI v) (by omega)
        rw [am_sub_c (S' := S3) (S := S) (w := 20) (fun a c1 c2 => f3 a (by omega) (by omega) (by omega))] at this
        exact this
      refine JJ_one (S1 := am_u S3 21 j (nI v)) (S3 := S3) (S4 := S4) jR jT jF ⟨hR, hG⟩ jK jA' jI jQ jC hn1 a1 a2 a3 a4 a5 (fun a c => am_u_ne _ (by omega)) b1 b2 b3 b4 (fun a c => am_u_ne _ c) ?_ ?_ ?_
      · rw [e20, am_u_self, b1 293 (by omega) (by omega), g293]
        exact mR_bal (Or.inl rfl) hR (by omega)
      · rw [e20]
        refine ⟨hG.1, hG.2.1, fun i hi => ?_⟩
        rw [am_u_at]
        by_cases z : i = j
        · rw [if_pos ⟨rfl, z⟩]; exact ⟨v, hv, rfl⟩
        · rw [if_neg (fun w => z w.2)]; exact hG.2.2 i hi
      · rw [e20]; exact w_cl_u (jC 20 isW20) (show j < 12 by omega)
  · have hgm := fun z => hg (hiff.mpr z)
    refine bo_ro (v := .int (-1000001)) J0 (wg_k_ballast (d := 31) hg ⟨?_, rfl⟩) (wg_m_ballast (d := 31) hgm ⟨?_, rfl⟩)
    · unfold eg_k_ballast
      unfold g_k_ballast at hg
      split
      · split
        · rfl
        · rename_i a b; exact absurd ⟨a, b⟩ hg
      · rfl
    · unfold eg_m_ballast
      unfold g_m_ballast at hgm
      split
      · split
        · rename_i a b; exact absurd ⟨a, b⟩ hgm
        · rfl
      · rfl
theorem eg_limit (j : JW S g n) {p : Int32} : eg_k_limit S p = eg_m_limit S p := eg_s1 (gs_iff j) not_or _ _ _
theorem bo_limit (J : JJ S) (p : Int32) : BO X 72 187 [.int p] S L := by
  have J0 := J
  obtain ⟨g, n, m, k, jR, jT, jF, jW, jK, jA, jI, jP, jQ, jC⟩ := J
  have hiff : g_k_limit S p ↔ g_m_limit S p := by
    unfold g_k_limit g_m_limit
    rw [gs_iff jW, not_or]
  by_cases hg : g_k_limit S p
  · have hgm := hiff.mp hg
    obtain ⟨hn1, hR, hG⟩ := gs_y jW hg.1
    have jA' := jA
    obtain ⟨m24, k24, m1, k1, k2, -⟩ := jA
    have el := hR.2.2.2.1
    unfold BO
    refine wv_k_limit (d := 31) m24 k24 m1 k1 (jC _ (isW_past m24)) (jC 20 isW20) hg ?_
    intro S3 a1 a2 a3 a4 a5
    have f3 : ∀ a, ¬ (40 ≤ a ∧ a < 256) → a ≠ 38 → a ≠ 277 → S3 a = S a := fun a c1 c2 c3 => a2 a (by omega) c2 c3
    refine ⟨_, _, _, rfl, rfl, ?_⟩
    have g285 : (am_u S3 20 1 p) 285 = S 285 := by rw [am_u_ne _ (by omega), f3 285 (by omega) (by omega) (by omega)]
    have g293 : (am_u S3 20 1 p) 293 = S 293 := by rw [am_u_ne _ (by omega), f3 293 (by omega) (by omega) (by omega)]
    refine wv_m_limit (d := 31) k24 (by rw [g285]; exact k2) (by rw [g285]; exact hgm) ?_
    intro S4 b1 b2 b3 b4
    refine ⟨?_, _, _, rfl, ?_⟩
    · rw [g293, el, f3 20 (by omega) (by omega) (by omega)]
      rfl
    · have e20 : am_sub (am_u S3 20 1 p) 20 = am_u (am_sub S 20) 0 1 p := by
        rw [am_sub_u S3 20 0 1 p (by omega), am_sub_c (S' := S3) (S := S) (fun a c1 c2 => f3 a (by omega) (by omega) (by omega))]
      refine JJ_one (S1 := am_u S3 20 1 p) (S3 := S3) (S4 := S4) jR jT jF ⟨hR, hG⟩ jK jA' jI jQ jC hn1 a1 a2 a3 a4 a5 (fun a c => am_u_ne _ (by omega)) b1 b2 b3 b4 (fun a c => am_u_ne _ c) ?_ ?_ ?_
      · rw [e20, am_u_self, b1 293 (by omega) (by omega), g293]
        exact mR_lim (Or.inl rfl) hR
      · rw [e20]; exact hG
      · rw [e20]; exact w_cl_u (jC 20 isW20) (show 1 < 5 by decide)
  · have hgm := fun z => hg (hiff.mpr z)
    refine bo_ro (v := .int (eg_k_limit S p)) J0 (wg_k_limit (d := 31) hg am_is_i) (wg_m_limit (d := 31) hgm ⟨?_, rfl⟩)
    rw [eg_limit jW]
theorem wh_ca {W : Nat → Nat → Int32} {j : Nat} : ∀ i, w_ca W j 0 i = W 0 i := fun i => rfl
theorem bo_again (J : JJ S) (p : Int32) : BO X 73 188 [.int p] S L := by
  have J0 := J
  obtain ⟨g, n, m, k, jR, jT, jF, jW, jK, jA, jI, jP, jQ, jC⟩ := J
  have hn6 := (JW_n jW).2.2
  by_cases hp : ¬ p < 0 ∧ ¬ S 20 4 ≤ p
  · have hp2 := (gp_iff jW p).mp hp
    obtain ⟨j, hj, rfl⟩ := gp_j jW hp
    obtain ⟨hn1, hR, hG⟩ := JW_y jW (Or.inl hj)
    have ec : (nI j).toNatClampNeg = j := nI_clamp (by omega)
    have ec2 : (15 + nI j : Int32).toNatClampNeg = 15 + j := cl_add 15 (by omega)
    have eh : S 293 (15 + j) = S 25 j := (hR.2.2.2.2.2.2.2.1 j hj).1
    have h03 : S 25 j = 0 ∨ S 25 j = 1 ∨ S 25 j = 2 ∨ S 25 j = 3 := hR.2.2.2.2.2.2.2.2.2.2.2 j hj
    have h2 := how_2 h03
    by_cases hw : S 25 j = 2 ∨ S 25 j = 3
    · have hw2 : 2 ≤ S 293 (15 + j) := by rw [eh]; exact Int32.not_lt.mp (h2.mpr hw)
      have hne1 : ¬ am_sub S 20 5 j = 1 := by
        show ¬ S 25 j = 1
        rcases hw with h | h <;> (rw [h]; decide)
      have jA' := jA
      obtain ⟨m24, k24, m1, k1, k2, -⟩ := jA
      have hf := JW_wF jW
      unfold BO
      have hcw : w_cl (w_ca (am_sub S 20) j) := w_cl_u (w_cl_u (w_cl_u (jC 20 isW20) (show j < 6 by omega)) (show j < 6 by omega)) (show j < 6 by omega)
      have sub3 : ∀ S3 : Nat → Nat → Int32, (∀ a, ¬ (40 + 9 * m ≤ a ∧ a < 49 + 9 * m) → a ≠ 38 → a ≠ 277 → S3 a = S a) → am_sub (am_ovl S3 20 (w_ca (am_sub S3 20) j)) 20 = w_ca (am_sub S 20) j := by
        intro S3 a2
        rw [am_sub_c (S' := S3) (S := S) (fun a c1 c2 => a2 a (by omega) (by omega) (by omega)), am_sub_s S3 hcw]
      refine wv_k_again (d := 31) (g := g) (n := n) m24 k24 m1 k1 (jC _ (isW_past m24)) (jC 20 isW20) ⟨hp, hw⟩ ?_ (fun _ => by omega) (fun _ _ _ _ _ _ => by omega) ?_
      · intro S3 a1 a2 a3 a4 a5
        rw [sub3 S3 a2]
        exact hf
      intro S3 a1 a2 a3 a4 a5
      have f3 : ∀ a, ¬ (40 ≤ a ∧ a < 256) → a ≠ 38 → a ≠ 277 → S3 a = S a := fun a c1 c2 c3 => a2 a (by omega) c2 c3
      rw [sub3 S3 a2]
      refine ⟨_, _, _, rfl, rfl, ?_⟩
      have g1 : ∀ a, ¬ (20 ≤ a ∧ a < 29) → am_ovl S3 20 (w_ca (am_sub S3 20) j) a = S3 a := fun a c => am_ovl_ne _ _ (by omega)
      have g285 : am_ovl S3 20 (w_ca (am_sub S3 20) j) 285 = S 285 := by rw [g1 285 (by omega), f3 285 (by omega) (by omega) (by omega)]
      have g293 : am_ovl S3 20 (w_ca (am_sub S3 20) j) 293 = S 293 := by rw [g1 293 (by omega), f3 293 (by omega) (by omega) (by omega)]
      have g297 : am_ovl S3 20 (w_ca (am_sub S3 20) j) 297 = S 297 := by rw [g1 297 (by omega), f3 297 (by omega) (by omega) (by omega)]
      have hF : mF (am_ovl S3 20 (w_ca (am_sub S3 20) j)) g n := by
        unfold mF
        rw [g285, g297]
        exact mR_F hR jK
      refine wv_m_again (d := 31) k24 (by rw [g285]; exact k2) hF ⟨by rw [g285]; exact hp2, by rw [g293]; exact hw2⟩ (fun _ => by omega) (fun _ _ _ _ _ => by omega) (fun _ _ _ _ _ => by omega) (fun _ _ _ _ _ => by omega) ?_
      intro S4 b1 b2 b3 b4
      have hm2 := mR_ca (Or.inl rfl) hR hj hne1
      have e4 : S4 293 = S 293 := by rw [b1 293 (by omega) (by omega), g293]
      have hm3 : mR (w_ca (am_sub S 20) j) (am_u (am_u (am_u S4 293 (15 + j) 0) 293 (27 + j) 0) 293 (33 + j) 0) 293 g n := by
        refine mR_c hm2 ?_ ?_ (fun i hi => ?_) (fun i hi => ?_) (fun i hi => ?_) (fun i hi => ?_)
        · rw [am_u_ne _ (by omega), am_u_ne _ (by omega), am_u_ne _ (by omega), b2 7 (by omega), g285]; rfl
        · rw [am_u_ne _ (by omega), am_u_ne _ (by omega), am_u_ne _ (by omega), b2 8 (by omega), g285]; rfl
        · rw [am_u_at, am_u_at, am_u_at, am_u_at, am_u_at, am_u_at, e4]
        · rw [am_u_ne _ (by omega), am_u_ne _ (by omega), am_u_ne _ (by omega), b1 290 (by omega) (by omega), g1 290 (by omega), f3 290 (by omega) (by omega) (by omega)]; rfl
        · rw [am_u_ne _ (by omega), am_u_ne _ (by omega), am_u_ne _ (by omega), b1 291 (by omega) (by omega), g1 291 (by omega), f3 291 (by omega) (by omega) (by omega)]; rfl
        · rw [am_u_ne _ (by omega), am_u_ne _ (by omega), am_u_ne _ (by omega), b1 292 (by omega) (by omega), g1 292 (by omega), f3 292 (by omega) (by omega) (by omega)]; rfl
      refine ⟨?_, _, _, rfl, ?_⟩
      · rw [mR_wh hm3 0 n 0 0 (by omega)]
      · refine JJ_one (S1 := am_ovl S3 20 (w_ca (am_sub S3 20) j)) (S3 := S3) (S4 := S4) jR jT jF ⟨hR, hG⟩ jK jA' jI jQ jC hn1 a1 a2 a3 a4 a5 (fun a c => g1 a c) b1 b2 b3 b4 (fun a c => by rw [am_u_ne _ c, am_u_ne _ c, am_u_ne _ c]) ?_ ?_ ?_
        · rw [sub3 S3 a2]
          refine mR_c hm3 ?_ ?_ (fun _ _ => rfl) (fun i hi => ?_) (fun i hi => ?_) (fun i hi => ?_)
          · show S 285 7 = _
            rw [am_u_ne _ (by omega), am_u_ne _ (by omega), am_u_ne _ (by omega), b2 7 (by omega), g285]
          · show S 285 8 = _
            rw [am_u_ne _ (by omega), am_u_ne _ (by omega), am_u_ne _ (by omega), b2 8 (by omega), g285]
          · show S 290 i = _
            rw [am_u_ne _ (by omega), am_u_ne _ (by omega), am_u_ne _ (by omega), b1 290 (by omega) (by omega), g1 290 (by omega), f3 290 (by omega) (by omega) (by omega)]
          · show S 291 i = _
            rw [am_u_ne _ (by omega), am_u_ne _ (by omega), am_u_ne _ (by omega), b1 291 (by omega) (by omega), g1 291 (by omega), f3 291 (by omega) (by omega) (by omega)]
          · show S 292 i = _
            rw [am_u_ne _ (by omega), am_u_ne _ (by omega), am_u_ne _ (by omega), b1 292 (by omega) (by omega), g1 292 (by omega), f3 292 (by omega) (by omega) (by omega)]
        · rw [sub3 S3 a2]
          refine ⟨hG.1, fun i hi => ?_, hG.2.2⟩
          show ∃ r, r ≤ 99 ∧ am_u (am_u (am_sub S 20) 5 j 0) 7 j 0 7 i = nI r
          rw [am_u_at]
          by_cases z : i = j
          · rw [if_pos ⟨rfl, z⟩]; exact ⟨0, by omega, rfl⟩
          · rw [if_neg (fun w => z w.2)]; exact hG.2.1 i hi
        · rw [sub3 S3 a2]; exact hcw
    · have hw2 : ¬ 2 ≤ S 293 (15 + j) := by rw [eh]; exact fun z => hw (h2.mp (Int32.not_lt.mpr z))
      refine bo_ro (v := .int (-1000002)) J0 (wg_k_again (d := 31) (fun _ => ix_n (by omega) (by omega)) (fun z => hw (by have := z.2; rw [ec] at this; exact this)) ⟨?_, rfl⟩) (wg_m_again (d := 31) (fun _ => ix_add 15 (by omega) (by omega)) (fun z => hw2 (by have := z.2; rw [ec2] at this; exact this)) ⟨?_, rfl⟩)
      · unfold eg_k_again; rw [if_pos hp, ec, if_neg hw]
      · unfold eg_m_again; rw [if_pos hp2, ec2, if_neg hw2]
  · have hp2 := fun z => hp ((gp_iff jW p).mpr z)
    refine bo_ro (v := .int (-1000001)) J0 (wg_k_again (d := 31) (fun c => absurd c hp) (fun z => hp z.1) ⟨?_, rfl⟩) (wg_m_again (d := 31) (fun c => absurd c hp2) (fun z => hp2 z.1) ⟨?_, rfl⟩)
    · unfold eg_k_again; rw [if_neg hp]
    · unfold eg_m_again; rw [if_neg hp2]
end ACTS3
