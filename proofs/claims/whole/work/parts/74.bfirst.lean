section BFIRST
variable {X : Nat × (Nat → Int32)} {S : Nat → Nat → Int32} {L : Nat → Int64} {g n : Nat}
theorem w_sn1 (V : Nat → Nat → Int32) : w_sn rk0 g n 1 V 0 = if w_mb V rk0 g n = true then 0 else 1 := by
  unfold w_sn w_sn
  rfl
theorem or0 {a b : Int32} : (a ||| b) = 0 ↔ a = 0 ∧ b = 0 := by
  constructor
  · intro h
    have h1 : (a ||| b).toBitVec = 0#32 := by rw [h]; rfl
    rw [Int32.toBitVec_or] at h1
    have ha : a.toBitVec = 0#32 := by
      apply BitVec.eq_of_getLsbD_eq
      intro i hi
      have := congrArg (fun q => q.getLsbD i) h1
      simp only [BitVec.getLsbD_or] at this
      cases hx : a.toBitVec.getLsbD i
      · simp
      · rw [hx] at this; simp at this
    have hb : b.toBitVec = 0#32 := by
      apply BitVec.eq_of_getLsbD_eq
      intro i hi
      have := congrArg (fun q => q.getLsbD i) h1
      simp only [BitVec.getLsbD_or] at this
      cases hx : b.toBitVec.getLsbD i
      · simp
      · rw [hx] at this; simp at this
    exact ⟨Int32.toBitVec_inj.mp ha, Int32.toBitVec_inj.mp hb⟩
  · rintro ⟨rfl, rfl⟩
    decide
theorem eg_first (j : JW S g n) {p : Int32} : eg_k_first S p = eg_m_first S p := eg_s1 (gs_iff j) not_or _ _ _
theorem bo_first (J : JJ S) (p : Int32) : BO X 85 199 [.int p] S L := by
  have J0 := J
  obtain ⟨g, n, m, k, jR, jT, jF, jW, jK, jA, jI, jP, jQ, jC⟩ := J
  have hiff : g_k_first S p ↔ g_m_first S p := by
    unfold g_k_first g_m_first
    rw [gs_iff jW, not_or]
  by_cases hg : g_k_first S p
  · have hgm := hiff.mp hg
    obtain ⟨-, hR, -⟩ := gs_y jW hg.1
    obtain ⟨t, -, ht, rfl⟩ := go_i (a := 0) (b := 1) (by omega) (by omega) hg.2
    have hf := JW_wF jW
    have h01 : t = 0 ∨ t = 1 := by omega
    rcases h01 with rfl | rfl
    · refine bo_scr J0 (wv_k_first (d := 31) hf (jC 29 isW29) (jC 20 isW20) hg (fun c => absurd rfl c) (fun _ W1 h1 => ⟨_, _, rfl, rfl, FR_o h1⟩)) ?_
      intro S1 L1 hfr J1
      have hg1 : g_m_first S1 (nI 0) := by
        unfold g_m_first
        rw [FR_285 hfr]
        exact hgm
      have hR1 := FR_m hfr hR
      have hK1 := FR_K hfr jK
      refine wv_m_first (d := 31) hR1 hK1 hg1 ?_
      intro S2 h2 h3
      have key : ∀ (k t : Nat) (V S2 : Nat → Nat → Int32), t + k = 61 → mR V S2 298 g n → F8 S1 S2 → am_ex (31 + 8) 199 28 [some (.ref 285), some (.int (nI 0)), some (.int (nI t))] [] (am_hh X S2 L1) (am_fr X (.int (w_fs g n (k - 1) (t + 1) V)) S1) := by
        intro k
        induction k with
        | zero =>
          intro t V S2 ht hm hf2
          have : t = 61 := by omega
          subst this
          have c0 : (60 : Int32) < nI 61 := by decide
          refine wl_m_first (d := 31) hR1 hK1 hm hf2 (fun _ => ⟨_, _, rfl, rfl, F8_FR hfr.2.2.2 hf2⟩) ?_ ?_ ?_ ?_ ?_ ?_ ?_ ?_ ?_
          all_goals (intro c; exact absurd c0 c)
        | succ k ih =>
          intro t V S2 ht hm hf2
          have e1 := w_sn1 (g := g) (n := n) V
          refine wl_m_first (d := 31) hR1 hK1 hm hf2 (fun c => absurd c (n60 (by omega))) (fun _ _ S3 hm3 hf3 c => ?_) (fun _ _ S3 _ _ _ c => absurd rfl c) (fun _ _ S3 hm3 hf3 c _ c6 => ?_) (fun _ _ S3 hm3 hf3 c _ c6 => ?_) (fun _ c => absurd c (by decide)) (fun _ c => absurd c (by decide)) (fun _ c => absurd c (by decide)) (fun _ c => absurd c (by decide)) (fun _ c => absurd c (by decide))
          · have := ih (t + 1) _ S3 (by omega) hm3 (F8_t hf2 hf3)
            have hb : w_mb V rk0 g n = true := by
              rw [e1] at c
              cases hq : w_mb V rk0 g n
              · rw [hq] at c; exact absurd rfl c
              · rfl
            cases k with
            | zero =>
              exact this
            | succ k =>
              rw [show k + 1 + 1 - 1 = k + 1 by omega]
              unfold w_fs
              rw [if_pos hb]
              exact this
          · have t60 : 60 ≤ t := by rw [show (60 : Int32) = nI 60 from rfl, nI_leI (by omega) (by omega)] at c6; exact c6
            have : k = 0 := by omega
            subst this
            exact ih (t + 1) _ S3 (by omega) hm3 (F8_t hf2 hf3)
          · have t60 : ¬ 60 ≤ t := by rw [show (60 : Int32) = nI 60 from rfl, nI_leI (by omega) (by omega)] at c6; exact c6
            have hb : ¬ w_mb V rk0 g n = true := by
              rw [e1] at c
              intro hq
              rw [if_pos hq] at c
              exact absurd c (by decide)
            cases k with
            | zero => omega
            | succ k =>
              rw [show k + 1 + 1 - 1 = k + 1 by omega]
              unfold w_fs
              rw [if_neg hb, nI_1]
              exact ⟨_, _, rfl, rfl, F8_FR hfr.2.2.2 (F8_t hf2 hf3)⟩
      exact key 61 0 _ S2 (by omega) h2 h3
    · refine bo_scr J0 (wv_k_first (d := 31) hf (jC 29 isW29) (jC 20 isW20) hg (fun _ W1 h1 => ⟨_, _, rfl, rfl, FR_o h1⟩) (fun c => absurd c (by decide))) ?_
      intro S1 L1 hfr J1
      have hg1 : g_m_first S1 (nI 1) := by
        unfold g_m_first
        rw [FR_285 hfr]
        exact hgm
      have hR1 := FR_m hfr hR
      have hK1 := FR_K hfr jK
      refine wv_m_first (d := 31) hR1 hK1 hg1 ?_
      intro S2 h2 h3
      have key : ∀ (k t : Nat) (V S2 : Nat → Nat → Int32), t + k = 61 → mR V S2 298 g n → F8 S1 S2 → am_ex (31 + 8) 199 28 [some (.ref 285), some (.int (nI 1)), some (.int (nI t))] [] (am_hh X S2 L1) (am_fr X (.int (w_wo g n k t V)) S1) := by
        intro k
        induction k with
        | zero =>
          intro t V S2 ht hm hf2
          have : t = 61 := by omega
          subst this
          have c0 : (60 : Int32) < nI 61 := by decide
          refine wl_m_first (d := 31) hR1 hK1 hm hf2 (fun _ => ⟨_, _, rfl, rfl, F8_FR hfr.2.2.2 hf2⟩) ?_ ?_ ?_ ?_ ?_ ?_ ?_ ?_ ?_
          all_goals (intro c; exact absurd c0 c)
        | succ k ih =>
          intro t V S2 ht hm hf2
          have go : ∀ S3, ¬ ((m_th S2 298 0 n 0 0) ||| (m_th S2 298 1 n 0 0)) = 0 → mR (w_it rk0 g n 1 V) S3 298 g n → F8 S2 S3 → am_ex (31 + 8) 199 28 [some (.ref 285), some (.int (nI 1)), some (.int (nI (t + 1)))] [] (am_hh X S3 L1) (am_fr X (.int (w_wo g n (k + 1) t V)) S1) := by
            intro S3 c hm3 hf3
            rw [← mR_wh hm 0 n 0 0 (by omega), ← mR_wh hm 1 n 0 0 (by omega), or0] at c
            unfold w_wo
            rw [if_neg c]
            exact ih (t + 1) _ S3 (by omega) hm3 (F8_t hf2 hf3)
          refine wl_m_first (d := 31) hR1 hK1 hm hf2 (fun c => absurd c (n60 (by omega))) (fun _ c => absurd rfl c) (fun _ c => absurd rfl c) (fun _ c => absurd rfl c) (fun _ c => absurd rfl c) (fun _ _ c S3 hm3 hf3 _ => go S3 c hm3 hf3) (fun _ _ c S3 hm3 hf3 _ _ => go S3 c hm3 hf3) (fun _ _ c S3 hm3 hf3 _ c2 => absurd c2 (by decide)) (fun _ _ c S3 hm3 hf3 _ c2 => absurd c2 (by decide)) (fun _ _ c => ?_)
          rw [← mR_wh hm 0 n 0 0 (by omega), ← mR_wh hm 1 n 0 0 (by omega), or0] at c
          unfold w_wo
          rw [if_pos c]
          exact ⟨_, _, rfl, rfl, F8_FR hfr.2.2.2 hf2⟩
      exact key 61 0 _ S2 (by omega) h2 h3
  · have hgm := fun z => hg (hiff.mpr z)
    refine bo_ro (v := .int (eg_k_first S p)) J0 (wg_k_first (d := 31) hg am_is_i) (wg_m_first (d := 31) hgm ⟨?_, rfl⟩)
    rw [eg_first jW]
end BFIRST
