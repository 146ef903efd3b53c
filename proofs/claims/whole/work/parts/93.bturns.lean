section BTURNS
variable {X : Nat × (Nat → Int32)} {S : Nat → Nat → Int32} {L : Nat → Int64} {g n : Nat}
theorem eg_byTurns (j : JW S g n) {p q : Int32} : eg_k_byTurns S p q = eg_m_byTurns S p q := eg_s2 (gs_iff j) not_or not_or _ _ _
/-- nothing is changed but the rows of tries and of worths -/
def F85 (S S' : Nat → Nat → Int32) : Prop := ∀ a, a ≠ 298 → a ≠ 305 → S' a = S a
theorem F85_m {S1 W : Nat → Nat → Int32} (h : F85 S S1) (hR : mR W S 293 g n) : mR W S1 293 g n := mR_c hR (by rw [h 285 (by decide) (by decide)]) (by rw [h 285 (by decide) (by decide)]) (fun i _ => by rw [h 293 (by decide) (by decide)]) (fun p _ => by rw [h 290 (by decide) (by decide)]) (fun p _ => by rw [h 291 (by decide) (by decide)]) (fun p _ => by rw [h 292 (by decide) (by decide)])
theorem F85_FR {S1 : Nat → Nat → Int32} (hc : w_cl (am_sub S 29)) (h : F85 S S1) : FR S S1 := by
  refine ⟨fun a ha => h a (by unfold scr at ha; omega) (by unfold scr at ha; omega), by rw [h 277 (by omega) (by omega)], by rw [h 277 (by omega) (by omega)], ?_⟩
  rw [am_sub_c (S' := S1) (S := S) (fun a h1 h2 => h a (by omega) (by omega))]
  exact hc
theorem bo_byTurns (J : JJ S) (p q : Int32) : BO X 107 210 [.int p, .int q] S L := by
  have J0 := J
  obtain ⟨g, n, m0, k0, jR, jT, jF, jW, jK, jA, jI, jP, jQ, jC⟩ := J
  have hiff : g_k_byTurns S p q ↔ g_m_byTurns S p q := by
    unfold g_k_byTurns g_m_byTurns
    rw [gs_iff jW, not_or, not_or]
  by_cases hg : g_k_byTurns S p q
  · have hgm := hiff.mp hg
    obtain ⟨hn1, hR, hG⟩ := gs_y jW hg.1
    obtain ⟨N, -, hN, rfl⟩ := go_i (a := 0) (b := 4) (by omega) (by omega) hg.2.1
    obtain ⟨m, -, hm, rfl⟩ := go_i (a := 1) (b := 20) (by omega) (by omega) hg.2.2
    have hf := JW_wF jW
    have hB : mB (am_sub S 20) g n := by
      obtain ⟨b, hb, e1, -⟩ := hR.2.2.1
      exact ⟨hf, hR.2.1.2.2.1, b, hb, e1⟩
    refine bo_scr J0 (wv_k_byTurns (d := 29) hB hG.2.2 hN hm (jC 29 isW29) (jC 20 isW20) hg (fun S1 h1 => ⟨_, _, rfl, rfl, h1⟩)) ?_
    intro S1 L1 hfr J1
    have hg1 : g_m_byTurns S1 (nI N) (nI m) := by
      unfold g_m_byTurns
      rw [FR_285 hfr]
      exact hgm
    have hR1 := FR_m hfr hR
    have hK1 := FR_K hfr jK
    rw [bt_res_eq _ N (S 282) (S1 305)]
    refine wv_m_byTurns (d := 31) hg1 ?_
    have inner : ∀ (k l t : Nat) (S2 : Nat → Nat → Int32) (f : Nat → Int32) (y5 y6 : Option Value), l + k = 2 ^ t → t < 4 → F85 S1 S2 → S2 305 = f → (∀ (S3 : Nat → Nat → Int32) (y4 y5 y6 : Option Value), F85 S1 S3 → S3 305 = bt_in t k l f → am_ex (31 + 8) 210 64 [some (.ref 285), some (.int (nI N)), some (.int (nI m)), some (.int (nI t - 1)), y4, y5, y6] [] (am_hh X S3 L1) (am_fr X (.int (bt_res (w_wv (am_sub S 20) g n N m) N (S1 305))) S1)) → am_ex (31 + 8) 210 71 [some (.ref 285), some (.int (nI N)), some (.int (nI m)), some (.int (nI t)), some (.int (nI l)), y5, y6] [] (am_hh X S2 L1) (am_fr X (.int (bt_res (w_wv (am_sub S 20) g n N m) N (S1 305))) S1) := by
      intro k
      induction k with
      | zero =>
        intro l t S2 f y5 y6 hl ht hB2 hS hk
        have e2 := shl1 t (by omega)
        have h16 : 2 ^ t ≤ 2 ^ 3 := Nat.pow_le_pow_right (by omega) (by omega)
        have c0 : (1 : Int32) <<< (nI t &&& 31) ≤ nI l := by rw [e2]; exact nI_le (by omega) (by omega)
        refine wl_bt3 (d := 31) (fun c => absurd c0 c) (fun c => absurd c0 c) (fun c => absurd c0 c) (fun c => absurd c0 c) (fun c => absurd c0 c) (fun c => absurd c0 c) (fun _ => ?_) (fun c => absurd c0 c) (fun c => absurd c0 c) (fun c => absurd c0 c) (fun c => absurd c0 c)
        have := hk S2 (some (.int (nI l))) y5 y6 hB2 hS
        rw [Int32.sub_eq_add_neg] at this
        exact this
      | succ k ih =>
        intro l t S2 f y5 y6 hl ht hB2 hS hk
        have e2 := shl1 t (by omega)
        have h16 : 2 ^ t ≤ 2 ^ 3 := Nat.pow_le_pow_right (by omega) (by omega)
        have c0 : ¬ (1 : Int32) <<< (nI t &&& 31) ≤ nI l := by rw [e2]; exact nI_ge (by omega) (by omega)
        have ea : nI t - nI t / 2 * 2 = nI (t % 2) := pk_rem (d := 2) (by omega) (by omega) (by omega)
        have go : ∀ (v : Int32) (y5 y6 : Option Value), v = bt_mx t (f (2 * l)) (f (2 * l + 1)) → am_ex (31 + 8) 210 71 [some (.ref 285), some (.int (nI N)), some (.int (nI m)), some (.int (nI t)), some (.int (nI (l + 1))), y5, y6] [] (am_hh X (am_u S2 305 l v) L1) (am_fr X (.int (bt_res (w_wv (am_sub S 20) g n N m) N (S1 305))) S1) := by
          intro v y5 y6 hv
          refine ih (l + 1) t _ (upd f l (bt_mx t (f (2 * l)) (f (2 * l + 1)))) _ _ (by omega) ht (fun a h1 h2 => (am_u_ne S2 h2).trans (hB2 a h1 h2)) ?_ hk
          rw [am_u_self, hS, hv]
        refine wl_bt3 (d := 31) (fun _ => by omega) (fun _ => by omega) (fun _ _ _ => by omega) (fun _ _ _ => by omega) (fun _ _ _ => by omega) (fun _ _ _ => by omega) (fun c => absurd c c0) (fun _ c c2 => go _ _ _ ?_) (fun _ c c2 => go _ _ _ ?_) (fun _ c c2 => go _ _ _ ?_) (fun _ c c2 => go _ _ _ ?_)
        all_goals (rw [ea, show (0 : Int32) = nI 0 from rfl, nI_eq (by omega) (by omega)] at c; rw [hS] at c2; rw [hS]; unfold bt_mx)
        · rw [if_neg c, if_neg (Int32.not_lt.mpr c2)]
        · rw [if_neg c, if_pos (Int32.not_le.mp c2)]
        · rw [if_pos c]
          by_cases q : f (2 * l) < f (2 * l + 1)
          · rw [if_pos q]
          · rw [if_neg q]
            exact Int32.le_antisymm (Int32.not_lt.mp q) c2
        · rw [if_pos c, if_neg (fun q => c2 (Int32.le_of_lt q))]
    have outer : ∀ (t : Nat) (S2 : Nat → Nat → Int32) (f : Nat → Int32) (y4 y5 y6 : Option Value), t ≤ 4 → F85 S1 S2 → S2 305 = f → bt_out t f 0 = bt_res (w_wv (am_sub S 20) g n N m) N (S1 305) → am_ex (31 + 8) 210 64 [some (.ref 285), some (.int (nI N)), some (.int (nI m)), some (.int (nI t - 1)), y4, y5, y6] [] (am_hh X S2 L1) (am_fr X (.int (bt_res (w_wv (am_sub S 20) g n N m) N (S1 305))) S1) := by
      intro t
      induction t with
      | zero =>
        intro S2 f y4 y5 y6 ht hB2 hS he
        refine wl_bt2 (d := 31) (fun _ => ?_) (fun c => absurd (by decide) c)
        rw [hS]
        have e : f 0 = bt_res (w_wv (am_sub S 20) g n N m) N (S1 305) := he
        rw [e]
        exact ⟨_, _, rfl, rfl, F85_FR hfr.2.2.2 hB2⟩
      | succ t ih =>
        intro S2 f y4 y5 y6 ht hB2 hS he
        rw [nI_pred]
        refine wl_bt2 (d := 31) (fun c => absurd c (nI_pos (by omega))) (fun _ => ?_)
        exact inner (2 ^ t) 0 t S2 f y5 y6 (by omega) (by omega) hB2 hS (fun S3 y4 y5 y6 q1 q2 => ih S3 _ y4 y5 y6 (by omega) q1 q2 he)
    have fill : ∀ (k l : Nat) (S2 : Nat → Nat → Int32) (f : Nat → Int32), l + k = 2 ^ N → F85 S1 S2 → S2 305 = f → bt_fill (w_wv (am_sub S 20) g n N m) k l f = bt_fill (w_wv (am_sub S 20) g n N m) (2 ^ N) 0 (S1 305) → am_ex (31 + 8) 210 34 [some (.ref 285), some (.int (nI N)), some (.int (nI m)), some (.int (nI l)), none, none, none] [] (am_hh X S2 L1) (am_fr X (.int (bt_res (w_wv (am_sub S 20) g n N m) N (S1 305))) S1) := by
      intro k
      induction k with
      | zero =>
        intro l S2 f hl hB2 hS he
        have e2 := shl1 N (by omega)
        have h16 : 2 ^ N ≤ 2 ^ 4 := Nat.pow_le_pow_right (by omega) (by omega)
        have c0 : (1 : Int32) <<< (nI N &&& 31) ≤ nI l := by rw [e2]; exact nI_le (by omega) (by omega)
        refine wl_bt1 (d := 31) (F85_m hB2 hR1) hB hG.2.2 hN hm (JK_c hK1 (hB2 297 (by decide) (by decide))) (fun c => absurd c0 c) (fun _ => ?_) (fun c => absurd c0 c)
        exact outer N S2 f none none none hN hB2 hS (by unfold bt_res; rw [← he]; rfl)
      | succ k ih =>
        intro l S2 f hl hB2 hS he
        have e2 := shl1 N (by omega)
        have h16 : 2 ^ N ≤ 2 ^ 4 := Nat.pow_le_pow_right (by omega) (by omega)
        have c0 : ¬ (1 : Int32) <<< (nI N &&& 31) ≤ nI l := by rw [e2]; exact nI_ge (by omega) (by omega)
        refine wl_bt1 (d := 31) (F85_m hB2 hR1) hB hG.2.2 hN hm (JK_c hK1 (hB2 297 (by decide) (by decide))) (fun _ _ _ => by omega) (fun c => absurd c c0) (fun _ S3 hf3 => ?_)
        refine ih (l + 1) _ (upd f l (w_wv (am_sub S 20) g n N m l)) (by omega) (fun a h1 h2 => ?_) ?_ he
        · rw [am_u_ne _ h2, hf3 a h1]
          exact hB2 a h1 h2
        · rw [am_u_self, hf3 305 (by decide), hS]
    exact fill (2 ^ N) 0 S1 (S1 305) (by omega) (fun _ _ _ => rfl) rfl rfl
  · have hgm := fun z => hg (hiff.mpr z)
    refine bo_ro (v := .int (eg_k_byTurns S p q)) J0 (wg_k_byTurns (d := 29) hg am_is_i) (wg_m_byTurns (d := 29) hgm ⟨?_, rfl⟩)
    rw [eg_byTurns jW]
end BTURNS
