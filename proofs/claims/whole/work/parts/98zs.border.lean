section BORD
variable {X : Nat × (Nat → Int32)} {S : Nat → Nat → Int32} {L : Nat → Int64}
theorem eg_ord {A B P1 Q1 P2 : Prop} [Decidable A] [Decidable B] [Decidable P1] [Decidable Q1] [Decidable P2] (h : A ↔ B) (h1 : ¬ P1 ↔ Q1) (x y z : Int32) : (if A then x else if P1 then y else if P2 then z else y) = if B then x else if Q1 then (if P2 then z else y) else y := by
  by_cases a : A
  · rw [if_pos a, if_pos (h.mp a)]
  · rw [if_neg a, if_neg (fun b => a (h.mpr b))]
    by_cases p : P1
    · rw [if_pos p, if_neg (fun q => (h1.mpr q) p)]
    · rw [if_neg p, if_pos (h1.mp p)]
theorem bo_order (J : JJ S) (p q : Int32) : BO X 88 200 [.int p, .int q] S L := by
  have J0 := J
  obtain ⟨g, n, m, k, jR, jT, jF, jW, jK, jA, jI, jP, jQ, jC⟩ := J
  have hiff : g_k_order S p q ↔ g_m_order S p q := by
    unfold g_k_order g_m_order
    rw [gs_iff jW, not_or]
  by_cases hg : g_k_order S p q
  · have hgm := hiff.mp hg
    obtain ⟨hn1, hR, hG⟩ := gs_y jW hg.1
    have hf := JW_wF jW
    have hn := JW_n jW
    obtain ⟨t, ht1, ht, rfl⟩ := go_i (a := 1) (b := 40) (by omega) (by omega) hg.2.1
    have hq1 := hg.2.2
    have hJ : S 277 3 = nI t → S 277 6 = (oc_res (am_sub S 20) g n t).1 ∧ ∀ k, k < 6 → S 279 k = (oc_res (am_sub S 20) g n t).2.2 k := by
      intro e
      rcases jP with z | ⟨m', m1, m2, e3, e6, e9⟩
      · rw [z, show (0 : Int32) = nI 0 from rfl, nI_eq (by omega) (by omega)] at e
        omega
      · rw [e3, nI_eq (by omega) (by omega)] at e
        subst e
        exact ⟨e6, e9⟩
    have fin : ∀ S4 v, FO (am_sub S 20) g n t S S4 → v = ores q n (oc_res (am_sub S 20) g n t) → am_mt 39 200 [.ref 285, .int (nI t), .int q] (am_hh X S4 L) (fun r2 h2 => r2 = some (.int v) ∧ ∃ S2 L2, h2 = am_hh X S2 L2 ∧ JJ S2) := by
      intro S4 v hO hv
      obtain ⟨⟨o1, o2, o3⟩, o4, o5⟩ := hO
      have g285 : S4 285 = S 285 := o1 285 (by omega) (by omega)
      refine wv_m_order (d := 31) (by rw [g285]; exact hgm) (fun S5 j5 f5 => ?_)
      have hR5 : mR (am_sub S 20) S5 293 g n := mR_c hR (by rw [f5 285 (by omega), g285]) (by rw [f5 285 (by omega), g285]) (fun i _ => by rw [f5 293 (by omega), o1 293 (by omega) (by omega)]) (fun i _ => by rw [f5 290 (by omega), o1 290 (by omega) (by omega)]) (fun i _ => by rw [f5 291 (by omega), o1 291 (by omega) (by omega)]) (fun i _ => by rw [f5 292 (by omega), o1 292 (by omega) (by omega)])
      obtain ⟨r, er, -⟩ := pm_hd hn.2.2
      have hch := List.all_eq_true.mp pm_chn n (List.mem_range.mpr (by omega))
      rw [er] at hch
      refine m_ord_lp (d := 31) (by omega) hn1 hR5 r [0, 1, 2, 3, 4, 5] (-1, -1, S5 304) S5 (-1) (-1) none none hch (fun l hl k hk => pm_6 hn.2.2 l (by rw [er]; exact hl) k hk) (fun _ _ _ _ => rfl) (fun k hk => ?_) rfl rfl (fun _ _ => rfl) (fun S6 h6 j6 => ⟨?_, S6, L, rfl, ?_⟩)
      · rw [j5 k hk]
        exact (rk0_nI k hk).symm.trans (rk0_lf k hk)
      · rw [← er, hv]
        obtain ⟨x1, -, x3⟩ := oc_any (W := am_sub S 20) (g := g) (m := t) (b := (-1, -1, S5 304)) hn.2.2 rfl rfl (off_0 hn.2.2 _)
        congr 2
        unfold ores
        rw [x1]
        by_cases c1 : q < 0
        · rw [if_pos c1, if_pos c1]
        · rw [if_neg c1, if_neg c1]
          by_cases c2 : nI n ≤ q
          · rw [if_pos c2, if_pos c2]
          · rw [if_neg c2, if_neg c2]
            obtain ⟨j, j1, rfl⟩ := (rng_k (n := n) (by omega) q).mp ⟨c1, c2⟩
            rw [nI_clamp (by omega), x3 j (by omega)]
      · have q6 : ∀ a, a ≠ 297 → a ≠ 298 → a ≠ 304 → S6 a = S4 a := fun a a1 a2 a3 => by rw [h6 a a1 a2 a3, f5 a a1]
        have w : ∀ a, ¬ (277 ≤ a ∧ a ≤ 279) ∧ ¬ (29 ≤ a ∧ a < 38) ∧ a ≠ 297 ∧ a ≠ 298 ∧ a ≠ 304 → S6 a = S a := fun a c => by rw [q6 a c.2.2.1 c.2.2.2.1 c.2.2.2.2, o1 a c.1 c.2.1]
        have wi : ∀ a i, ¬ (277 ≤ a ∧ a ≤ 279) ∧ ¬ (29 ≤ a ∧ a < 38) ∧ a ≠ 297 ∧ a ≠ 298 ∧ a ≠ 304 → S6 a i = S a i := fun a i c => by rw [w a c]
        have e20 : am_sub S6 20 = am_sub S 20 := am_sub_c (fun a a1 a2 => w a (by omega))
        refine ⟨g, n, m, k, JR_c jR ?_ ?_, JT_c jT ?_ ?_ ?_ ?_, JF_c jF ?_ ?_ ?_ ?_, JW_c jW ?_ ?_ ?_ ?_, j6, JA_c jA ?_ ?_ ?_ ?_ ?_ ?_ ?_ ?_, JI_c jI ?_ ?_ ?_, Or.inr ⟨t, ht1, ht, ?_, ?_, fun k hk => ?_⟩, JQ_c jQ ?_ ?_ ?_ ?_, fun u hu => ?_⟩
        all_goals first | (apply w; omega) | (apply wi; omega) | (intro a ha hb; apply w; omega) | skip
        · rw [q6 277 (by omega) (by omega) (by omega)]; exact o3
        · rw [q6 277 (by omega) (by omega) (by omega), e20]; exact o4
        · rw [q6 279 (by omega) (by omega) (by omega), e20]; exact o5 k hk
        · rcases hu with rfl | rfl | ⟨c, hc, rfl⟩ | ⟨c, hc, rfl⟩
          · rw [e20]; exact jC 20 isW20
          · rw [am_sub_c (S' := S6) (S := S4) (fun a a1 a2 => q6 a (by omega) (by omega) (by omega))]; exact o2
          · rw [am_sub_c (S' := S6) (S := S) (fun a a1 a2 => w a (by omega))]; exact jC _ (isW_past hc)
          · rw [am_sub_c (S' := S6) (S := S) (fun a a1 a2 => w a (by omega))]; exact jC _ (isW_kept hc)
    have hS4 : ∀ S4, FO (am_sub S 20) g n t S S4 → S4 20 4 = nI n := fun S4 h => by rw [h.1.1 20 (by omega) (by omega)]; exact hn.1
    unfold BO
    refine wv_k_order (d := 31) (fun Q hQ => kt_findOrder (by omega) hn.1 hn1 hn.2.2 hf (jC 29 isW29) (jC 20 isW20) hJ hQ) hg (fun S4 o c1 c2 => ?_) (fun S4 o c1 c2 => ⟨_, _, _, rfl, rfl, fin S4 _ o ?_⟩) (fun S4 o c1 c2 => ⟨_, _, _, rfl, rfl, fin S4 _ o ?_⟩) (fun S4 o c1 => ⟨_, _, _, rfl, rfl, fin S4 _ o ?_⟩)
    · rw [hS4 S4 o, rng_k (by omega)] at c2
      obtain ⟨j, j1, rfl⟩ := c2
      exact ix_n (by omega) (by omega)
    · rw [hS4 S4 o] at c2
      have c0 : ¬ q < 0 := fun z => by
        apply c1
        rw [Int32.lt_iff_toInt_lt] at z
        rw [Int32.le_iff_toInt_le] at hq1
        apply Int32.toInt_inj.mp
        have e1 : (-1 : Int32).toInt = -1 := by decide
        have e2 : (0 : Int32).toInt = 0 := by decide
        omega
      unfold ores
      rw [if_neg c0, if_pos (Decidable.not_not.mp (fun z => c2 ⟨c0, z⟩))]
    · rw [hS4 S4 o] at c2
      have c2' := c2
      rw [rng_k (by omega)] at c2'
      obtain ⟨j, j1, rfl⟩ := c2'
      unfold ores
      rw [if_neg c2.1, if_neg c2.2, nI_clamp (by omega)]
      exact o.2.2 j (by omega)
    · unfold ores
      rw [if_pos (by rw [c1]; decide)]
      exact o.2.1
  · have hgm := fun z => hg (hiff.mpr z)
    refine bo_ro (v := .int (eg_k_order S p q)) J0 (wg_k_order (d := 31) hg am_is_i) (wg_m_order (d := 31) hgm ⟨?_, rfl⟩)
    unfold eg_k_order eg_m_order
    rw [eg_ord (gs_iff jW) not_or]
end BORD
