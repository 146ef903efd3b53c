section BDRAWN
variable {X : Nat × (Nat → Int32)} {S : Nat → Nat → Int32} {L : Nat → Int64} {g n : Nat}
theorem eg_drawn (j : JW S g n) {p q r : Int32} : eg_k_drawn S p q r = eg_m_drawn S p q r := eg_s3 (gs_iff j) not_or not_or not_or _ _ _
/-- OFF or GONE -/
theorem how_2 {x : Int32} (h : x = 0 ∨ x = 1 ∨ x = 2 ∨ x = 3) : (¬ x < 2) ↔ (x = 2 ∨ x = 3) := by
  rcases h with rfl | rfl | rfl | rfl <;> decide
theorem bo_drawn (J : JJ S) (p q r : Int32) : BO X 124 218 [.int p, .int q, .int r] S L := by
  have J0 := J
  obtain ⟨g, n, m, k, jR, jT, jF, jW, jK, jA, jI, jP, jQ, jC⟩ := J
  have hiff : g_k_drawn S p q r ↔ g_m_drawn S p q r := by
    unfold g_k_drawn g_m_drawn
    rw [gs_iff jW, not_or, not_or, not_or]
  by_cases hg : g_k_drawn S p q r
  · have hgm := hiff.mp hg
    obtain ⟨hn1, hR, -⟩ := gs_y jW hg.1
    obtain ⟨t, -, ht, rfl⟩ := go_i (a := 0) (b := 60) (by omega) (by omega) hg.2.1
    obtain ⟨s, -, hs, rfl⟩ := go_i (a := 1) (b := 999999) (by omega) (by omega) hg.2.2.1
    have hf := JW_wF jW
    have hn6 := hf.2.1
    have hg4 := hR.2.1.2.2
    have hc := w_cl_dr (g := g) (n := n) hn1 (by omega) t s _ 0 hf (jC 20 isW20)
    refine bo_scr (v := .int (if r = 0 then (w_dr g n t s (am_sub S 20) 0).1 else w_sum ((w_dr g n t s (am_sub S 20) 0).2 7) n 0 0)) J0 (wv_k_drawn (d := 31) hf (jC 29 isW29) (jC 20 isW20) hn1 (by omega) (by omega) hg (by omega) (fun c => ?_) (fun c => ?_)) ?_
    · rw [if_neg c]; exact ⟨_, _, rfl, rfl, FR_o hc⟩
    · rw [if_pos c]; exact ⟨_, _, rfl, rfl, FR_o hc⟩
    intro S1 L1 hfr J1
    have hg1 : g_m_drawn S1 (nI t) (nI s) r := by
      unfold g_m_drawn
      rw [FR_285 hfr]
      exact hgm
    have hR1 := FR_m hfr hR
    have hK1 := FR_K hfr jK
    refine wv_m_drawn (d := 31) hR1 hK1 hg1 ?_
    intro S2 h2 h3
    have key : ∀ (k j z : Nat) (a : Int32) (V S2 : Nat → Nat → Int32) (x8 : Option Value), j + k = t → z < 2 ^ 31 → mR V S2 298 g n → F8 S1 S2 → am_ex (31 + 8) 218 57 [some (.ref 285), some (.int (nI t)), some (.int (nI s)), some (.int r), some (.long (lN z)), none, some (.int a), some (.int (nI j)), x8] [] (am_hh X S2 L1) (am_fr X (.int (if r = 0 then (w_dr g n k z V a).1 else w_sum ((w_dr g n k z V a).2 7) n 0 0)) S1) := by
      intro k
      induction k with
      | zero =>
        intro j z a V S2 x8 hj hz hm hf2
        have m1 := Nat.mod_lt (z * 16807 % 2147483647) (show 0 < n by omega)
        have m2 := Nat.mod_lt (z * 16807 % 2147483647) (show 0 < g by omega)
        have c0 : nI t ≤ nI j := nI_le (by omega) (by omega)
        have hhow := hm.2.2.2.2.2.2.2.1 _ m1
        have h03 := hm.2.2.2.2.2.2.2.2.2.2.2 _ m1
        refine wl_mdrawn (d := 31) hR1 hK1 hm hf2 hz hn1 (dr_r hm.1.2.1 (dr_b z) hn1 (by omega)) (dr_r hm.2.1.2.1 (dr_b z) (by omega) (by omega)) ?_ (by omega) (fun c => absurd c0 c) (fun c => absurd c0 c) (fun c => absurd c0 c) (fun c => absurd c0 c) (fun c => absurd c0 c) (fun c => absurd c0 c) (fun _ c => ?_) (fun _ c => ?_) (fun c => absurd c0 c) (fun c => absurd c0 c) (fun c => absurd c0 c)
        · rw [hhow.1, how_2 h03]
          rintro (q | q) <;> (rw [q]; decide)
        · rw [if_neg c]; exact ⟨_, _, rfl, rfl, F8_FR hfr.2.2.2 hf2⟩
        · rw [if_pos c]; exact ⟨_, _, rfl, rfl, F8_FR hfr.2.2.2 hf2⟩
      | succ k ih =>
        intro j z a V S2 x8 hj hz hm hf2
        have m1 := Nat.mod_lt (z * 16807 % 2147483647) (show 0 < n by omega)
        have m2 := Nat.mod_lt (z * 16807 % 2147483647) (show 0 < g by omega)
        have c0 : ¬ nI t ≤ nI j := nI_ge (by omega) (by omega)
        have hhow := hm.2.2.2.2.2.2.2.1 _ m1
        have h03 := hm.2.2.2.2.2.2.2.2.2.2.2 _ m1
        have go : ∀ (U : Nat → Nat → Int32) (S5 : Nat → Nat → Int32) (x8 : Option Value), w_hp V g n (z * 16807 % 2147483647) = U → mR (w_it rk0 g n 1 U) S5 298 g n → F8 S1 S5 → am_ex (31 + 8) 218 57 [some (.ref 285), some (.int (nI t)), some (.int (nI s)), some (.int r), some (.long (lN (z * 16807 % 2147483647))), none, some (.int (a + w_sn rk0 g n 1 U 0)), some (.int (nI (j + 1))), x8] [] (am_hh X S5 L1) (am_fr X (.int (if r = 0 then (w_dr g n (k + 1) z V a).1 else w_sum ((w_dr g n (k + 1) z V a).2 7) n 0 0)) S1) := by
          intro U S5 x8 e hm5 hf5
          have ea : a + w_sn rk0 g n 1 U 0 = if w_mb U rk0 g n = true then a else a + 1 := by
            rw [w_sn1]
            split
            · exact Int32.add_zero a
            · rfl
          rw [ea]
          have := ih (j + 1) (z * 16807 % 2147483647) (if w_mb U rk0 g n = true then a else a + 1) (w_ms U rk0 g n) S5 x8 (by omega) (dr_b z) hm5 hf5
          unfold w_dr
          rw [e]
          exact this
        refine wl_mdrawn (d := 31) hR1 hK1 hm hf2 hz hn1 (dr_r hm.1.2.1 (dr_b z) hn1 (by omega)) (dr_r hm.2.1.2.1 (dr_b z) (by omega) (by omega)) ?_ (by omega) (fun _ => dr_0 hm.1.2.1 hn1 (by omega)) (fun _ => by omega) (fun _ _ _ => dr_0 hm.2.1.2.1 (by omega) (by omega)) (fun _ _ _ => by omega) (fun _ _ => by omega) (fun _ _ => by omega) (fun c => absurd c c0) (fun c => absurd c c0) (fun _ c c2 S5 hm5 hf5 => ?_) (fun _ c c2 S5 hm5 hf5 => ?_) (fun _ c S5 hm5 hf5 => ?_)
        · rw [hhow.1, how_2 h03]
          rintro (q | q) <;> (rw [q]; decide)
        · have cc : ¬ (V 5 (z * 16807 % 2147483647 % n) = 2 ∨ V 5 (z * 16807 % 2147483647 % n) = 3) := by
            rw [hhow.1] at c
            rw [← how_2 h03]
            exact fun q => q c
          exact go V S5 _ (by unfold w_hp; rw [if_neg cc, if_neg c2]) hm5 (F8_t hf2 hf5)
        · have cc : ¬ (V 5 (z * 16807 % 2147483647 % n) = 2 ∨ V 5 (z * 16807 % 2147483647 % n) = 3) := by
            rw [hhow.1] at c
            rw [← how_2 h03]
            exact fun q => q c
          exact go _ S5 _ (by unfold w_hp; rw [if_neg cc, if_pos c2]) hm5 (F8_t (F8_u hf2) hf5)
        · have cc : V 5 (z * 16807 % 2147483647 % n) = 2 ∨ V 5 (z * 16807 % 2147483647 % n) = 3 := by
            rw [hhow.1] at c
            exact (how_2 h03).mp c
          exact go _ S5 _ (by unfold w_hp; rw [if_pos cc]; rfl) hm5 (F8_t (F8_u (F8_u (F8_u hf2))) hf5)
    have := key t 0 s 0 (am_sub S 20) S2 none (by omega) (by omega) h2 h3
    rw [nI_l (by omega)]
    exact this
  · have hgm := fun z => hg (hiff.mpr z)
    refine bo_ro (v := .int (eg_k_drawn S p q r)) J0 (wg_k_drawn (d := 31) hg am_is_i) (wg_m_drawn (d := 31) hgm ⟨?_, rfl⟩)
    rw [eg_drawn jW]
end BDRAWN
