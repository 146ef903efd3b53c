section BCNT
variable {X : Nat × (Nat → Int32)} {S : Nat → Nat → Int32} {L : Nat → Int64} {g n : Nat}
theorem bo_count (J : JJ S) (q : Int32) : BO X 142 234 [.int q] S L := by
  have J0 := J
  obtain ⟨g, n, m, k, jR, jT, jF, jW, jK, jA, jI, jP, jQ, jC⟩ := J
  have hn := JW_n jW
  have hg := JW_g jW
  refine bo_ro (v := .int (e_k_count S q g n)) J0 (w_k_count (d := 33) (JW_wF jW) am_is_i) (w_m_count (d := 33) hg.2.1 hg.2.2 hn.2.1 hn.2.2 ⟨?_, rfl⟩)
  obtain ⟨⟨t, ht, t1, t2⟩, -⟩ := jT
  obtain ⟨-, -, -, a2, a3, -⟩ := jA
  have e0 := hm_eq (f := S 17) (f' := S 287) (fun r hr => ⟨(jR.1 r hr).2.1, (jR.1 r hr).2.2⟩) 8 0 0 (by omega)
  have e3 : S 293 0 = S 20 3 := by
    rcases jW with ⟨-, -, -, -, h, -, -, h'⟩ | ⟨-, h, -⟩
    · rw [h, h']
    · exact h.2.2.2.2.1
  have e4 : w_sum (fun i => S 293 (3 + i)) g 0 0 = w_sum (am_sub S 20 1) g 0 0 := by
    refine w_sum_c (m := g) (fun i hi => ?_) g 0 0 (by omega)
    rcases jW with ⟨-, h, -⟩ | ⟨-, h, -⟩
    · omega
    · exact h.2.2.2.2.2.1 i (by omega)
  have e5 : w_sum (fun i => S 293 (27 + i)) n 0 0 = w_sum (am_sub S 20 7) n 0 0 := by
    refine w_sum_c (m := n) (fun i hi => ?_) n 0 0 (by omega)
    rcases jW with ⟨h, -⟩ | ⟨-, h, -⟩
    · omega
    · exact (h.2.2.2.2.2.2.2.1 i hi).2.1
  unfold e_k_count e_m_count
  rw [e0, hn.1, hn.2.1, hg.1, hg.2.1, e3, e4, e5, a2, a3, t1, t2]
theorem JJ_tape {S' : Nat → Nat → Int32} (J : JJ S) (h : ∀ a, a ≠ 18 → a ≠ 19 → a ≠ 285 → a ≠ 289 → S' a = S a) (h285 : ∀ i, i ≠ 5 → S' 285 i = S 285 i) (hT : JT S') : JJ S' := by
  obtain ⟨g, n, m, k, jR, jT, jF, jW, jK, jA, jI, jP, jQ, jC⟩ := J
  have q : ∀ a, a ≠ 18 ∧ a ≠ 19 ∧ a ≠ 285 ∧ a ≠ 289 → S' a = S a := fun a ha => h a ha.1 ha.2.1 ha.2.2.1 ha.2.2.2
  have qi : ∀ a i, a ≠ 18 ∧ a ≠ 19 ∧ a ≠ 285 ∧ a ≠ 289 → S' a i = S a i := fun a i ha => by rw [q a ha]
  have hc : w_cl (am_sub S' 29) := by
    rw [am_sub_c (S' := S') (S := S) (fun a h1 h2 => q a (by omega))]
    exact jC 29 isW29
  refine ⟨g, n, m, k, JR_c jR ?_ ?_, hT, JF_c jF ?_ ?_ ?_ ?_, JW_c jW ?_ ?_ ?_ ?_, JK_c jK ?_, JA_c jA ?_ ?_ ?_ ?_ ?_ ?_ ?_ ?_, JI_c jI ?_ ?_ ?_, JP_c jP ?_ ?_ ?_ ?_, JQ_c jQ ?_ ?_ ?_ ?_, JC_c jC ?_ hc⟩
  all_goals first | (apply q; omega) | (apply qi; omega) | (apply h285; omega) | (intro a ha hb; apply q; omega) | (intro a ha hb hd; apply q; omega)
theorem bo_feed (J : JJ S) (p : Int32) : BO X 26 157 [.int p] S L := by
  have J0 := J
  obtain ⟨g, n, m, k, jR, ⟨⟨t, ht, t1, t2⟩, jT⟩, -⟩ := J
  by_cases hp : ¬ p < 0 ∧ ¬ 255 < p
  · have hp2 : p ≤ 255 := Int32.not_lt.mp hp.2
    by_cases h100 : t = 100
    · subst h100
      have e1 : e_k_feed S p = (-1000003, S) := by
        unfold e_k_feed
        rw [if_neg hp.1, if_pos hp2, t1, if_neg (by decide)]
      have e2 : e_m_feed S p = (-1000003, S) := by
        unfold e_m_feed
        rw [if_pos hp, t2, if_pos (by decide)]
      refine bo_ro J0 (w_k_feed (d := 33) (fun _ _ c => absurd c (by rw [t1]; decide)) (is_p e1 rfl)) (w_m_feed (d := 33) (fun _ c => absurd (by rw [t2]; decide) c) (is_p e2 rfl))
    · have c1 : S 18 2 < 100 := by rw [t1]; exact nI_lt (b := 100) (by omega) (by omega)
      have c2 : ¬ 100 ≤ S 18 2 := by rw [t1]; exact nI_ge (b := 100) (by omega) (by omega)
      have c3 : ¬ nI t = 100 := fun z => h100 ((nI_eq (b := 100) (by omega) (by omega)).mp z)
      have e1 : e_k_feed S p = (nI (t + 1), am_u (am_u S 19 t p) 18 2 (nI (t + 1))) := by
        unfold e_k_feed
        rw [if_neg hp.1, if_pos hp2, if_pos c1, if_neg c2, t1, nI_clamp (by omega), nI_1]
      have e2 : ∀ S1 : Nat → Nat → Int32, S1 285 5 = nI t → e_m_feed S1 p = (nI (t + 1), am_u (am_u S1 289 t p) 285 5 (nI (t + 1))) := fun S1 h => by
        unfold e_m_feed
        rw [if_pos hp, h, if_neg c3, nI_clamp (by omega), nI_1]
      refine bo_of (S1 := am_u (am_u S 19 t p) 18 2 (nI (t + 1))) (S2 := am_u (am_u (am_u (am_u S 19 t p) 18 2 (nI (t + 1))) 289 t p) 285 5 (nI (t + 1))) (L1 := L) (L2 := L) (w_k_feed (d := 33) (fun _ _ _ _ => am_ix_of t1 (by omega) (by omega)) (is_p e1 rfl)) (w_m_feed (d := 33) (fun _ _ => am_ix_of t2 (by omega) (by omega)) (is_p (e2 _ t2) rfl)) (JJ_tape J0 ?_ ?_ ⟨⟨t + 1, by omega, rfl, rfl⟩, fun i hi => ?_⟩)
      · intro a h1 h2 h3 h4
        rw [am_u_ne _ h3, am_u_ne _ h4, am_u_ne _ h1, am_u_ne _ h2]
      · intro i hi
        rw [am_u_at, if_neg (fun z => hi z.2), am_u_ne _ (by omega), am_u_ne _ (by omega), am_u_ne _ (by omega)]
      · show am_u S 19 t p 19 i = am_u S 289 t p 289 i
        rw [am_u_at, am_u_at, jT i hi]
        by_cases z : i = t
        · rw [if_pos ⟨rfl, z⟩, if_pos ⟨rfl, z⟩]
        · rw [if_neg (fun w => z w.2), if_neg (fun w => z w.2)]
  · have e1 : e_k_feed S p = (-1000001, S) := by
      unfold e_k_feed
      by_cases h0 : p < 0
      · rw [if_pos h0]
      · rw [if_neg h0]
        have : ¬ p ≤ 255 := fun z => hp ⟨h0, Int32.not_lt.mpr z⟩
        rw [if_neg this]
    have e2 : e_m_feed S p = (-1000001, S) := by
      unfold e_m_feed
      rw [if_neg hp]
    exact bo_ro J0 (w_k_feed (d := 33) (fun c c2 => absurd ⟨c, Int32.not_lt.mpr c2⟩ hp) (is_p e1 rfl)) (w_m_feed (d := 33) (fun c => absurd c hp) (is_p e2 rfl))
end BCNT
