/-! Both: what is foretold. -/
theorem eg_s1 {α : Type} {A B P1 Q1 : Prop} [Decidable A] [Decidable B] [Decidable P1] [Decidable Q1] (h : A ↔ B) (h1 : ¬ P1 ↔ Q1) (x y z : α) : (if A then x else if P1 then y else z) = if B then x else if Q1 then z else y := by
  by_cases a : A
  · rw [if_pos a, if_pos (h.mp a)]
  · rw [if_neg a, if_neg (fun q => a (h.mpr q))]
    by_cases p : P1
    · rw [if_pos p, if_neg (fun q => h1.mpr q p)]
    · rw [if_neg p, if_pos (h1.mp p)]
theorem eg_s2 {α : Type} {A B P1 P2 Q1 Q2 : Prop} [Decidable A] [Decidable B] [Decidable P1] [Decidable P2] [Decidable Q1] [Decidable Q2] (h : A ↔ B) (h1 : ¬ P1 ↔ Q1) (h2 : ¬ P2 ↔ Q2) (x y z : α) : (if A then x else if P1 then y else if P2 then y else z) = if B then x else if Q1 then (if Q2 then z else y) else y := by
  by_cases p : P1
  · have := eg_s1 h h1 x y z
    rw [if_pos p] at this ⊢
    rw [if_neg (fun q => h1.mpr q p)] at this ⊢
    exact this
  · rw [if_neg p, if_pos (h1.mp p)]
    exact eg_s1 h h2 x y z
theorem eg_s3 {α : Type} {A B P1 P2 P3 Q1 Q2 Q3 : Prop} [Decidable A] [Decidable B] [Decidable P1] [Decidable P2] [Decidable P3] [Decidable Q1] [Decidable Q2] [Decidable Q3] (h : A ↔ B) (h1 : ¬ P1 ↔ Q1) (h2 : ¬ P2 ↔ Q2) (h3 : ¬ P3 ↔ Q3) (x y z : α) : (if A then x else if P1 then y else if P2 then y else if P3 then y else z) = if B then x else if Q1 then (if Q2 then (if Q3 then z else y) else y) else y := by
  by_cases p : P1
  · have := eg_s1 h h1 x y z
    rw [if_pos p] at this ⊢
    rw [if_neg (fun q => h1.mpr q p)] at this ⊢
    exact this
  · rw [if_neg p, if_pos (h1.mp p)]
    exact eg_s2 h h2 h3 x y z
section BFORE
variable {X : Nat × (Nat → Int32)} {S : Nat → Nat → Int32} {L : Nat → Int64} {g n : Nat}
def am_fr (X : Nat × (Nat → Int32)) (v : Value) (S : Nat → Nat → Int32) : Option Value → am_H → Prop := fun r h => ∃ S1 L1, r = some v ∧ h = am_hh X S1 L1 ∧ FR S S1
theorem bo_scr {y1 y2 : Nat} {vs : List Value} {v : Value} (J : JJ S) (h1 : am_mt 39 y1 (.ref 5 :: vs) (am_hh X S L) (am_fr X v S)) (h2 : ∀ S1 L1, FR S S1 → JJ S1 → am_mt 39 y2 (.ref 285 :: vs) (am_hh X S1 L1) (am_fr X v S1)) : BO X y1 y2 vs S L := by
  unfold BO
  refine ax_mono h1 ?_
  rintro r h ⟨S1, L1, rfl, rfl, hf⟩
  refine ⟨v, S1, L1, rfl, rfl, ax_mono (h2 S1 L1 hf (JJ_scr J hf)) ?_⟩
  rintro r h ⟨S2, L2, rfl, rfl, hf2⟩
  exact ⟨rfl, S2, L2, rfl, JJ_scr (JJ_scr J hf) hf2⟩
theorem FR_m {S1 W : Nat → Nat → Int32} (h : FR S S1) (hR : mR W S 293 g n) : mR W S1 293 g n := by
  have q : ∀ a, a = 285 ∨ a = 290 ∨ a = 291 ∨ a = 292 ∨ a = 293 → S1 a = S a := fun a ha => h.1 a (by unfold scr; omega)
  exact mR_c hR (by rw [q 285 (by omega)]) (by rw [q 285 (by omega)]) (fun i _ => by rw [q 293 (by omega)]) (fun p _ => by rw [q 290 (by omega)]) (fun p _ => by rw [q 291 (by omega)]) (fun p _ => by rw [q 292 (by omega)])
theorem FR_285 {S1 : Nat → Nat → Int32} (h : FR S S1) : S1 285 = S 285 := h.1 285 (by unfold scr; omega)
theorem FR_K {S1 : Nat → Nat → Int32} (h : FR S S1) (hK : JK S) : JK S1 := JK_c hK (h.1 297 (by unfold scr; omega))
theorem F8_FR {S1 : Nat → Nat → Int32} (hc : w_cl (am_sub S 29)) (h : F8 S S1) : FR S S1 := FR_1 hc (Or.inl rfl) h
/-- parties, gondolas: the class's test and the model's are the same -/
theorem gp_iff (j : JW S g n) (p : Int32) : (¬ p < 0 ∧ ¬ S 20 4 ≤ p) ↔ (¬ p < 0 ∧ ¬ S 285 7 - 1 < p) := by
  have hn := JW_n j
  rw [hn.1, hn.2.1, rng_k (by omega), rng_m (by omega)]
theorem gs_iff (j : JW S g n) : S 20 4 ≤ 0 ↔ S 285 8 = 0 := by
  rcases JW_0 j with ⟨h1, h2, -⟩ | ⟨h1, h2, -⟩
  · exact ⟨fun _ => h2, fun _ => h1⟩
  · exact ⟨fun c => absurd c h1, fun c => absurd c h2⟩
theorem gp_j (j : JW S g n) {p : Int32} (h : ¬ p < 0 ∧ ¬ S 20 4 ≤ p) : ∃ i, i < n ∧ p = nI i := by
  have hn := JW_n j
  rw [hn.1, rng_k (by omega)] at h
  exact h
theorem gs_y (j : JW S g n) (h : ¬ S 20 4 ≤ 0) : 1 ≤ n ∧ mR (am_sub S 20) S 293 g n ∧ wG (am_sub S 20) n := by
  rcases JW_0 j with ⟨h1, -⟩ | ⟨-, -, h3⟩
  · exact absurd h1 h
  · exact h3
theorem go_i {a b : Nat} (hb : b < 2 ^ 31) (hab : a ≤ b) {v : Int32} (h : ¬ (v < nI a ∨ nI b < v)) : ∃ t, a ≤ t ∧ t ≤ b ∧ v = nI t := (rng_i hb hab v).mp (not_or.mp h)
theorem bo_ahead (J : JJ S) (p q r : Int32) : BO X 80 194 [.int p, .int q, .int r] S L := by
  have J0 := J
  obtain ⟨g, n, m, k, jR, jT, jF, jW, jK, jA, jI, jP, jQ, jC⟩ := J
  have hn6 := (JW_n jW).2.2
  have hiff : g_k_ahead S p q r ↔ g_m_ahead S p q r := by
    unfold g_k_ahead g_m_ahead
    rw [gp_iff jW, not_or, not_or]
  by_cases hg : g_k_ahead S p q r
  · have hgm := hiff.mp hg
    obtain ⟨j, hj, rfl⟩ := gp_j jW hg.1
    obtain ⟨t, -, ht, rfl⟩ := go_i (a := 0) (b := 60) (by omega) (by omega) hg.2.1
    obtain ⟨-, hR, -⟩ := JW_y jW (Or.inl hj)
    have hf := JW_wF jW
    have hc := w_cl_it (g := g) (n := n) rk0 t _ hf (jC 20 isW20)
    have hcase : r = 0 ∨ r = 1 ∨ r = 2 ∨ (¬ r = 0 ∧ ¬ r = 1 ∧ ¬ r = 2) := by
      by_cases h0 : r = 0
      · exact Or.inl h0
      · by_cases h1 : r = 1
        · exact Or.inr (Or.inl h1)
        · by_cases h2 : r = 2
          · exact Or.inr (Or.inr (Or.inl h2))
          · exact Or.inr (Or.inr (Or.inr ⟨h0, h1, h2⟩))
    have key : ∀ v : Int32, ((r = 0 → v = w_it rk0 g n t (am_sub S 20) 5 j) ∧ (¬ r = 0 → r = 1 → v = if w_it rk0 g n t (am_sub S 20) 5 j = 1 then w_it rk0 g n t (am_sub S 20) 6 j else -1000000) ∧ (¬ r = 0 → ¬ r = 1 → r = 2 → v = w_it rk0 g n t (am_sub S 20) 7 j) ∧ (¬ r = 0 → ¬ r = 1 → ¬ r = 2 → v = w_it rk0 g n t (am_sub S 20) 8 j)) → BO X 80 194 [.int (nI j), .int (nI t), .int r] S L := by
      rintro v ⟨v0, v1, v2, v3⟩
      refine bo_scr (v := .int v) J0 ?_ ?_
      · refine wv_k_ahead (d := 31) hf (jC 29 isW29) (jC 20 isW20) hg (by omega) (fun _ => by omega) (fun _ _ => by omega) (fun _ _ _ => by omega) (fun _ _ _ => by omega) ?_ ?_ ?_ ?_
        · intro c; rw [v0 c]; exact ⟨_, _, rfl, rfl, FR_o hc⟩
        · intro c c1; rw [v1 c c1]; exact ⟨_, _, rfl, rfl, FR_o hc⟩
        · intro c c1 c2; rw [v2 c c1 c2]; exact ⟨_, _, rfl, rfl, FR_o hc⟩
        · intro c c1 c2; rw [v3 c c1 c2]; exact ⟨_, _, rfl, rfl, FR_o hc⟩
      · intro S1 L1 hfr J1
        have hg1 : g_m_ahead S1 (nI j) (nI t) r := by
          unfold g_m_ahead
          rw [FR_285 hfr]
          exact hgm
        refine wv_m_ahead (d := 31) (FR_m hfr hR) (FR_K hfr jK) hg1 ?_ ?_ ?_ ?_ ?_ ?_ ?_ ?_ ?_
        · intros; omega
        · intros; omega
        · intros; omega
        · intros; omega
        · intros; omega
        · intro S2 h2 h3 S3 h4 h5 c c1 c2
          rw [(h4.2.2.2.2.2.2.2.1 j hj).2.2, ← v3 c c1 c2]
          exact ⟨_, _, rfl, rfl, F8_FR hfr.2.2.2 (F8_t h3 h5)⟩
        · intro S2 h2 h3 S3 h4 h5 c c1 c2
          rw [(h4.2.2.2.2.2.2.2.1 j hj).2.1, ← v2 c c1 c2]
          exact ⟨_, _, rfl, rfl, F8_FR hfr.2.2.2 (F8_t h3 h5)⟩
        · intro S2 h2 h3 S3 h4 h5 c c1
          rw [h4.2.2.2.2.2.2.2.2.1 j hj, ← v1 c c1]
          exact ⟨_, _, rfl, rfl, F8_FR hfr.2.2.2 (F8_t h3 h5)⟩
        · intro S2 h2 h3 S3 h4 h5 c
          rw [(h4.2.2.2.2.2.2.2.1 j hj).1, ← v0 c]
          exact ⟨_, _, rfl, rfl, F8_FR hfr.2.2.2 (F8_t h3 h5)⟩
    rcases hcase with h | h | h | ⟨h0, h1, h2⟩
    · exact key _ ⟨fun _ => rfl, fun c => absurd h c, fun c => absurd h c, fun c => absurd h c⟩
    · subst h
      exact key _ ⟨fun c => absurd c (by decide), fun _ _ => rfl, fun _ c => absurd rfl c, fun _ c => absurd rfl c⟩
    · subst h
      exact key _ ⟨fun c => absurd c (by decide), fun _ c => absurd c (by decide), fun _ _ _ => rfl, fun _ _ c => absurd rfl c⟩
    · exact key _ ⟨fun c => absurd c h0, fun _ c => absurd c h1, fun _ _ c => absurd c h2, fun _ _ _ => rfl⟩
  · have hgm := fun z => hg (hiff.mpr z)
    refine bo_ro (v := .int (-1000001)) J0 (wg_k_ahead (d := 31) hg ⟨?_, rfl⟩) (wg_m_ahead (d := 31) hgm ⟨?_, rfl⟩)
    · unfold eg_k_ahead
      unfold g_k_ahead at hg
      split
      · split
        · rfl
        · split
          · rfl
          · rename_i a b c; exact absurd ⟨a, b, c⟩ hg
      · rfl
    · unfold eg_m_ahead
      unfold g_m_ahead at hgm
      split
      · split
        · split
          · rename_i a b c; exact absurd ⟨a, b, c⟩ hgm
          · rfl
        · rfl
      · rfl
theorem eg_leans (j : JW S g n) {p : Int32} : eg_k_leans S p = eg_m_leans S p := eg_s1 (gs_iff j) not_or _ _ _
theorem bo_leans (J : JJ S) (p : Int32) : BO X 82 197 [.int p] S L := by
  have J0 := J
  obtain ⟨g, n, m, k, jR, jT, jF, jW, jK, jA, jI, jP, jQ, jC⟩ := J
  have hiff : g_k_leans S p ↔ g_m_leans S p := by
    unfold g_k_leans g_m_leans
    rw [gs_iff jW, not_or]
  by_cases hg : g_k_leans S p
  · have hgm := hiff.mp hg
    obtain ⟨-, hR, -⟩ := gs_y jW hg.1
    obtain ⟨t, -, ht, rfl⟩ := go_i (a := 0) (b := 60) (by omega) (by omega) hg.2
    have hf := JW_wF jW
    have hc := w_cl_it (g := g) (n := n) rk0 t _ hf (jC 20 isW20)
    refine bo_scr J0 (wv_k_leans (d := 31) hf (jC 29 isW29) (jC 20 isW20) hg (by omega) ⟨_, _, rfl, rfl, FR_o hc⟩) ?_
    intro S1 L1 hfr J1
    have hg1 : g_m_leans S1 (nI t) := by
      unfold g_m_leans
      rw [FR_285 hfr]
      exact hgm
    refine wv_m_leans (d := 31) (FR_m hfr hR) (FR_K hfr jK) hg1 (fun _ _ _ => by omega) ?_
    intro S2 h2 h3 S3 h4 h5
    obtain ⟨b, hb, e1, e2⟩ := h4.2.2.1
    rw [e2, ← mR_lean h4 hb, ← e1]
    exact ⟨_, _, rfl, rfl, F8_FR hfr.2.2.2 (F8_t h3 h5)⟩
  · have hgm := fun z => hg (hiff.mpr z)
    refine bo_ro (v := .int (eg_k_leans S p)) J0 (wg_k_leans (d := 31) hg am_is_i) (wg_m_leans (d := 31) hgm ⟨?_, rfl⟩)
    rw [eg_leans jW]
theorem bo_when (J : JJ S) (p q : Int32) : BO X 83 198 [.int p, .int q] S L := by
  have J0 := J
  obtain ⟨g, n, m, k, jR, jT, jF, jW, jK, jA, jI, jP, jQ, jC⟩ := J
  have hn6 := (JW_n jW).2.2
  have hiff : g_k_when S p q ↔ g_m_when S p q := by
    unfold g_k_when g_m_when
    rw [gp_iff jW, not_or]
  by_cases hg : g_k_when S p q
  · have hgm := hiff.mp hg
    obtain ⟨j, hj, rfl⟩ := gp_j jW hg.1
    obtain ⟨-, hR, -⟩ := JW_y jW (Or.inl hj)
    have hf := JW_wF jW
    refine bo_scr J0 (wv_k_when (d := 31) hf (jC 29 isW29) (jC 20 isW20) hg (by omega) (fun W1 h1 => ⟨_, _, rfl, rfl, FR_o h1⟩)) ?_
    intro S1 L1 hfr J1
    have hg1 : g_m_when S1 (nI j) q := by
      unfold g_m_when
      rw [FR_285 hfr]
      exact hgm
    have hR1 := FR_m hfr hR
    have hK1 := FR_K hfr jK
    refine wv_m_when (d := 31) hR1 hK1 hg1 ?_
    intro S2 h2 h3
    have key : ∀ (k t : Nat) (V S2 : Nat → Nat → Int32), t + k = 61 → mR V S2 298 g n → F8 S1 S2 → am_ex (31 + 8) 198 26 [some (.ref 285), some (.int (nI j)), some (.int q), some (.int (nI t))] [] (am_hh X S2 L1) (am_fr X (.int (w_when g n q j k t V)) S1) := by
      intro k
      induction k with
      | zero =>
        intro t V S2 ht hm hf2
        have : t = 61 := by omega
        subst this
        exact wl_m_when (d := 31) hR1 hK1 hm hf2 (fun _ => by omega) (fun _ => ⟨_, _, rfl, rfl, F8_FR hfr.2.2.2 hf2⟩) (fun c => absurd (by decide) c) (fun c => absurd (by decide) c)
      | succ k ih =>
        intro t V S2 ht hm hf2
        have e := (hm.2.2.2.2.2.2.2.1 j hj).1
        refine wl_m_when (d := 31) hR1 hK1 hm hf2 (fun _ => by omega) (fun c => absurd c (n60 (by omega))) (fun _ c S3 hm3 hf3 => ?_) (fun _ c => ?_)
        · rw [e] at c
          unfold w_when
          rw [if_neg c]
          exact ih (t + 1) _ S3 (by omega) hm3 (F8_t hf2 hf3)
        · rw [e] at c
          unfold w_when
          rw [if_pos c]
          exact ⟨_, _, rfl, rfl, F8_FR hfr.2.2.2 hf2⟩
    exact key 61 0 _ S2 (by omega) h2 h3
  · have hgm := fun z => hg (hiff.mpr z)
    refine bo_ro (v := .int (-1000001)) J0 (wg_k_when (d := 31) hg ⟨?_, rfl⟩) (wg_m_when (d := 31) hgm ⟨?_, rfl⟩)
    · unfold eg_k_when
      unfold g_k_when at hg
      split
      · split
        · rfl
        · rename_i a b; exact absurd ⟨a, b⟩ hg
      · rfl
    · unfold eg_m_when
      unfold g_m_when at hgm
      split
      · split
        · rename_i a b; exact absurd ⟨a, b⟩ hgm
        · rfl
      · rfl
end BFORE
