section STEPS
variable {d : Nat} {X : Nat × (Nat → Int32)} {S S1 S2 S3 : Nat → Nat → Int32} {L : Nat → Int64} {g n m k t i : Nat} {Q : Option Value → am_H → Prop}
theorem w_it_s (rk : Nat → Int32) (g n : Nat) : ∀ (k : Nat) (W : Nat → Nat → Int32), w_it rk g n (k + 1) W = w_ms (w_it rk g n k W) rk g n := by
  intro k
  induction k with
  | zero => intro W; rfl
  | succ k ih => intro W; exact ih (w_ms W rk g n)
theorem wG_it (rk : Nat → Int32) : ∀ (k : Nat) (W : Nat → Nat → Int32), wF W g n → wG W n → wG (w_it rk g n k W) n := by
  intro k
  induction k with
  | zero => intro W _ h; exact h
  | succ k ih => intro W hf h; exact ih _ (wF_ms hf) (wG_ms hf h)
theorem KP_cl {Ws : Nat → Nat → Nat → Int32} (hK : KP S S1 Ws m k i) (jC : JC S) (hw : ∀ j, j < i → w_cl (Ws j)) {c : Nat} (hc : c < 24) : w_cl (am_sub S1 (40 + 9 * c)) := by
  by_cases e : ∃ j, j < i ∧ c = (m + j) % 24
  · obtain ⟨j, hj, rfl⟩ := e
    rw [hK.1 j hj]
    exact hw j hj
  · rw [hK.2.1 c hc (fun j hj z => e ⟨j, hj, z⟩)]
    exact jC _ (isW_past hc)
theorem KP_s {Ws : Nat → Nat → Nat → Int32} (hK : KP S S1 Ws m k i) (hi : i < 24) (a1 : am_sub S2 (40 + 9 * ((m + i) % 24)) = am_sub S1 20) (e : am_sub S1 20 = Ws i) (a2 : ∀ a, ¬ (40 + 9 * ((m + i) % 24) ≤ a ∧ a < 49 + 9 * ((m + i) % 24)) → a ≠ 38 → a ≠ 277 → S2 a = S1 a) (a3 : S2 38 1 = nI (((m + i) % 24 + 1) % 24)) (a4 : S2 38 2 = nI (min (min (k + i) 24 + 1) 24)) (h3 : ∀ a, ¬ (20 ≤ a ∧ a < 29) → S3 a = S2 a) : KP S S3 Ws m k (i + 1) := by
  have e3 : ∀ c, c < 24 → am_sub S3 (40 + 9 * c) = am_sub S2 (40 + 9 * c) := fun c hc => am_sub_c (fun a h1 h2 => h3 a (by omega))
  have e2 : ∀ c, c < 24 → c ≠ (m + i) % 24 → am_sub S2 (40 + 9 * c) = am_sub S1 (40 + 9 * c) := fun c hc hn => am_sub_c (fun a h1 h2 => a2 a (by omega) (by omega) (by omega))
  refine ⟨fun j hj => ?_, fun c hc hn => ?_, ?_, ?_⟩
  · rw [e3 _ (Nat.mod_lt _ (by omega))]
    by_cases z : j = i
    · subst z; rw [a1, e]
    · rw [e2 _ (Nat.mod_lt _ (by omega)) (by omega), hK.1 j (by omega)]
  · rw [e3 c hc, e2 c hc (hn i (by omega)), hK.2.1 c hc (fun j hj => hn j (by omega))]
  · rw [h3 38 (by omega), a3]
    congr 1
    omega
  · rw [h3 38 (by omega), a4]
    congr 1
    omega
def KS (S S1 : Nat → Nat → Int32) (g n m k i : Nat) : Prop := KP S S1 (fun j => w_it rk0 g n j (am_sub S 20)) m k i ∧ am_sub S1 20 = w_it rk0 g n i (am_sub S 20) ∧ (∀ a, ¬ (20 ≤ a ∧ a < 29) → ¬ (40 ≤ a ∧ a < 256) → a ≠ 38 → a ≠ 277 → S1 a = S a) ∧ (1 ≤ i → S1 277 3 = 0)
theorem k_steps_lp (jC : JC S) (hf : wF (am_sub S 20) g n) (ht : t ≤ 24) (hQ : ∀ S', KS S S' g n m k t → Q (some (.int (w_wh (am_sub S' 20) 2 n 0 0))) (am_hh X S' L)) : ∀ r i S1, i + r = t → KS S S1 g n m k i → am_ex (d + 8) 49 46 [some (.ref 5), some (.int (nI t)), some (.int (nI i))] [] (am_hh X S1 L) Q := by
  intro r
  induction r with
  | zero =>
    intro i S1 hi hK
    have e : i = t := by omega
    subst e
    have hw : wF (am_sub S1 20) g n := by rw [hK.2.1]; exact wF_it rk0 i _ hf
    refine wl_k_steps (m := (m + i) % 24) (k := min (k + i) 24) (Nat.mod_lt _ (by omega)) (by omega) hK.1.2.2.1 hK.1.2.2.2 (KP_cl hK.1 jC (fun j _ => w_cl_it rk0 j _ hf (jC 20 isW20)) (Nat.mod_lt _ (by omega))) ?_ hw (fun _ => hQ S1 hK) (fun c => absurd Int32.le_rfl c)
    rw [hK.2.1]; exact w_cl_it rk0 i _ hf (jC 20 isW20)
  | succ r ih =>
    intro i S1 hi hK
    have hw : wF (am_sub S1 20) g n := by rw [hK.2.1]; exact wF_it rk0 i _ hf
    refine wl_k_steps (m := (m + i) % 24) (k := min (k + i) 24) (Nat.mod_lt _ (by omega)) (by omega) hK.1.2.2.1 hK.1.2.2.2 (KP_cl hK.1 jC (fun j _ => w_cl_it rk0 j _ hf (jC 20 isW20)) (Nat.mod_lt _ (by omega))) ?_ hw (fun c => ?_) (fun _ S2 a1 a2 a3 a4 a5 => ih (i + 1) _ (by omega) ?_)
    · rw [hK.2.1]; exact w_cl_it rk0 i _ hf (jC 20 isW20)
    · rw [nI_leI (by omega) (by omega)] at c
      omega
    · have e20 : am_sub S2 20 = w_it rk0 g n i (am_sub S 20) := by
        rw [am_sub_c (S' := S2) (S := S1) (fun a h1 h2 => a2 a (by omega) (by omega) (by omega)), hK.2.1]
      have hc : w_cl (w_ms (am_sub S2 20) rk0 g n) := by
        rw [e20, ← w_it_s]; exact w_cl_it rk0 _ _ hf (jC 20 isW20)
      refine ⟨KP_s hK.1 (by omega) a1 hK.2.1 a2 a3 a4 (fun a h => am_ovl_ne _ _ (by omega)), ?_, fun a h1 h2 h3 h4 => ?_, fun _ => ?_⟩
      · rw [am_sub_s S2 hc, e20, w_it_s]
      · rw [am_ovl_ne _ _ (by omega), a2 a (by omega) h3 h4, hK.2.2.1 a h1 h2 h3 h4]
      · rw [am_ovl_ne _ _ (by omega), a5]
theorem NP_s {rows : Nat → Nat → Int32} (hN : NP S S1 rows k i) (hk : k ≤ 24) (b3 : S2 285 14 = nI (min (min (k + i) 24 + 1) 24)) (b4 : ∀ q y, q < min (min (k + i) 24 + 1) 24 → y < 39 → S2 294 (39 * q + y) = if q + (min (k + i) 24 + 1 - min (min (k + i) 24 + 1) 24) < min (k + i) 24 then S1 294 (39 * (q + (min (k + i) 24 + 1 - min (min (k + i) 24 + 1) 24)) + y) else S1 293 y) (h5 : S3 285 14 = S2 285 14) (h4 : S3 294 = S2 294) : NP S S3 (fun j => if j < i then rows j else S1 293) k (i + 1) := by
  refine ⟨?_, fun q y hq hy => ?_⟩
  · rw [h5, b3]
    congr 1
    omega
  · rw [h4, b4 q y (by omega) hy]
    by_cases e : q + (min (k + i) 24 + 1 - min (min (k + i) 24 + 1) 24) < min (k + i) 24
    · rw [if_pos e, hN.2 _ y e hy]
      by_cases f : q + (k + (i + 1) - min (k + (i + 1)) 24) < k
      · rw [if_pos f, if_pos (by omega)]
        congr 1
        omega
      · rw [if_neg f, if_neg (by omega)]
        dsimp only
        rw [if_pos (by omega)]
        congr 1
        omega
    · rw [if_neg e, if_neg (by omega)]
      dsimp only
      rw [if_neg (by omega)]
def MS (S S1 : Nat → Nat → Int32) (W : Nat → Nat → Int32) (g n k i : Nat) : Prop := ∃ rows, NP S S1 rows k i ∧ (∀ j, j < i → mR (w_it rk0 g n j W) (mkV (S 285 7) (S 285 8) (S 290) (S 291) (S 292) (rows j)) 293 g n) ∧ mR (w_it rk0 g n i W) S1 293 g n ∧ (∀ a, a ≠ 285 → a ≠ 293 → a ≠ 294 → S1 a = S a) ∧ ∀ i, i ≠ 14 → S1 285 i = S 285 i
theorem m_steps_lp {W : Nat → Nat → Int32} (jK : JK S) (hk : k ≤ 24) (ht : t ≤ 24) (hQ : ∀ S', MS S S' W g n k t → Q (some (.int (m_th S' 293 2 n 0 0))) (am_hh X S' L)) : ∀ r i S1, i + r = t → MS S S1 W g n k i → am_ex (d + 8) 170 42 [some (.ref 285), some (.int (nI t)), some (.int (nI i))] [] (am_hh X S1 L) Q := by
  intro r
  induction r with
  | zero =>
    intro i S1 hi hM
    have hM0 := hM
    obtain ⟨rows, hN, h1, h2, h3, h4⟩ := hM
    have e : i = t := by omega
    subst e
    refine wl_m_steps (k := min (k + i) 24) (by omega) hN.1 (mR_F h2 (JK_c jK (h3 297 (by omega) (by omega) (by omega)))) (fun _ => hQ S1 hM0) (fun c => absurd Int32.le_rfl c)
  | succ r ih =>
    intro i S1 hi hM
    obtain ⟨rows, hN, h1, h2, h3, h4⟩ := hM
    have hK1 := JK_c jK (h3 297 (by omega) (by omega) (by omega))
    refine wl_m_steps (k := min (k + i) 24) (by omega) hN.1 (mR_F h2 hK1) (fun c => ?_) (fun _ S2 b1 b2 b3 b4 => ih (i + 1) _ (by omega) ?_)
    · rw [nI_leI (by omega) (by omega)] at c
      omega
    · have q : ∀ a, a ≠ 285 → a ≠ 294 → ∀ i, S2 a i = S1 a i := fun a c1 c2 i => by rw [b1 a c1 c2]
      have hm2 : mR (w_it rk0 g n i W) S2 293 g n := mR_c h2 (b2 7 (by omega)) (b2 8 (by omega)) (fun j _ => q 293 (by omega) (by omega) j) (fun j _ => q 290 (by omega) (by omega) j) (fun j _ => q 291 (by omega) (by omega) j) (fun j _ => q 292 (by omega) (by omega) j)
      have hK2 : JK S2 := JK_c hK1 (b1 297 (by omega) (by omega))
      refine ⟨_, NP_s hN hk b3 b4 (by rw [m_step_ne _ _ _ _ (by omega)]) (by rw [m_step_ne _ _ _ _ (by omega)]), fun j hj => ?_, ?_, fun a c1 c2 c3 => ?_, fun j hj => ?_⟩
      · by_cases z : j < i
        · rw [if_pos z]; exact h1 j z
        · rw [if_neg z]
          have z2 : j = i := by omega
          subst z2
          have q3 : ∀ a, a ≠ 285 → a ≠ 293 → a ≠ 294 → ∀ i, S a i = S1 a i := fun a c1 c2 c3 i => by rw [h3 a c1 c2 c3]
          exact mR_c h2 (h4 7 (by omega)).symm (h4 8 (by omega)).symm (fun j _ => rfl) (fun j _ => q3 290 (by omega) (by omega) (by omega) j) (fun j _ => q3 291 (by omega) (by omega) (by omega) j) (fun j _ => q3 292 (by omega) (by omega) (by omega) j)
      · rw [w_it_s]
        exact (mR_step (Or.inl rfl) hm2 (rkR_0 hK2 hm2.1.2.2)).1
      · rw [m_step_ne _ _ _ _ c2, b1 a c1 c3, h3 a c1 c2 c3]
      · rw [m_step_ne _ _ _ _ (by omega), b2 j hj, h4 j hj]
theorem eg_steps {A B P1 Q1 P2 : Prop} [Decidable A] [Decidable B] [Decidable P1] [Decidable Q1] [Decidable P2] (h : A ↔ B) (h1 : ¬ P1 ↔ Q1) (x y z w : Int32) : (if A then x else if P1 then y else if P2 then z else w) = if B then x else if Q1 then (if P2 then z else w) else y := by
  by_cases a : A
  · rw [if_pos a, if_pos (h.mp a)]
  · rw [if_neg a, if_neg (fun b => a (h.mpr b))]
    by_cases p : P1
    · rw [if_pos p, if_neg (fun q => (h1.mpr q) p)]
    · rw [if_neg p, if_pos (h1.mp p)]
theorem bo_steps (J : JJ S) (p : Int32) : BO X 49 170 [.int p] S L := by
  have J0 := J
  obtain ⟨g, n, m, k, jR, jT, jF, jW, jK, jA, jI, jP, jQ, jC⟩ := J
  have e0 : S 20 3 = S 293 0 := by
    rcases jW with ⟨-, -, -, -, h, -, -, h'⟩ | ⟨-, hR, -⟩
    · rw [h, h']
    · exact hR.2.2.2.2.1.symm
  have hiff : g_k_steps S p ↔ g_m_steps S p := by
    unfold g_k_steps g_m_steps
    rw [gs_iff jW, not_or, e0]
  by_cases hg : g_k_steps S p
  · have hgm := hiff.mp hg
    obtain ⟨hn1, hR, hG⟩ := gs_y jW hg.1
    obtain ⟨t, ht1, ht, rfl⟩ := go_i (a := 1) (b := 24) (by omega) (by omega) hg.2.1
    have jA' := jA
    obtain ⟨m24, k24, m1, k1, k2, -⟩ := jA
    have hf := JW_wF jW
    have hc20 := jC 20 isW20
    unfold BO
    refine wv_k_steps (d := 31) hg ?_
    refine k_steps_lp (m := m) (k := k) (d := 31) jC hf ht ?_ t 0 S (by omega) ⟨⟨fun i hi => absurd hi (by omega), fun _ _ _ => rfl, ?_, ?_⟩, rfl, fun _ _ _ _ _ => rfl, fun z => absurd z (by omega)⟩
    rotate_left
    · rw [m1]; congr 1; omega
    · rw [k1]; congr 1; omega
    intro S' hK
    refine ⟨_, _, _, rfl, rfl, ?_⟩
    have f3 := hK.2.2.1
    have q3 : ∀ a, ¬ (20 ≤ a ∧ a < 29) → ¬ (40 ≤ a ∧ a < 256) → a ≠ 38 → a ≠ 277 → ∀ i, S' a i = S a i := fun a c1 c2 c3 c4 i => by rw [f3 a c1 c2 c3 c4]
    have g285 : S' 285 = S 285 := f3 285 (by omega) (by omega) (by omega) (by omega)
    have g293 : S' 293 = S 293 := f3 293 (by omega) (by omega) (by omega) (by omega)
    have g294 : S' 294 = S 294 := f3 294 (by omega) (by omega) (by omega) (by omega)
    have g290 : S' 290 = S 290 := f3 290 (by omega) (by omega) (by omega) (by omega)
    have g291 : S' 291 = S 291 := f3 291 (by omega) (by omega) (by omega) (by omega)
    have g292 : S' 292 = S 292 := f3 292 (by omega) (by omega) (by omega) (by omega)
    have hR' : mR (am_sub S 20) S' 293 g n := mR_c hR (by rw [g285]) (by rw [g285]) (fun i _ => by rw [g293]) (fun i _ => by rw [g290]) (fun i _ => by rw [g291]) (fun i _ => by rw [g292])
    have jK' : JK S' := JK_c jK (f3 297 (by omega) (by omega) (by omega) (by omega))
    have hgm' : ¬ (S' 285 8 = 0) ∧ (¬ nI t < 1 ∧ ¬ 24 < nI t) ∧ S' 293 0 + nI t ≤ 999 := by
      rw [g285, g293]; exact hgm
    refine wv_m_steps (d := 31) hgm' ?_
    refine m_steps_lp (W := am_sub S 20) (g := g) (n := n) (k := k) (d := 31) jK' k24 ht ?_ t 0 S' (by omega) ⟨fun _ _ => 0, ⟨?_, fun q y hq hy => ?_⟩, fun j hj => absurd hj (by omega), hR', fun _ _ _ _ => rfl, fun _ _ => rfl⟩
    rotate_left
    · rw [g285, k2]; congr 1; omega
    · rw [if_pos (by omega)]; congr 1; omega
    intro S2 hM
    obtain ⟨rows, hN, h1, h2, h3, h4⟩ := hM
    have e20 : am_sub S2 20 = w_it rk0 g n t (am_sub S 20) := by
      rw [am_sub_c (S' := S2) (S := S') (fun a c1 c2 => h3 a (by omega) (by omega) (by omega)), hK.2.1]
    refine ⟨?_, _, _, rfl, ?_⟩
    · rw [hK.2.1, mR_wh h2 2 n 0 0 (by omega)]
    · rw [g285, g290, g291, g292] at h1
      refine JJ_act (t := t) (Ws := fun j => w_it rk0 g n j (am_sub S 20)) (rows := rows) jR jT jF jK jA' jI jQ jC ht hn1 ?_ ?_ (fun i hi => ⟨h1 i hi, wG_it rk0 i _ hf hG⟩) (fun i hi => w_cl_it rk0 i _ hf hc20) ⟨?_, ?_⟩ ?_ ?_ (fun a c1 c2 c3 c4 c5 c6 c7 => ?_) (fun i hi => ?_)
      · obtain ⟨u1, u2, u3, u4⟩ := hK.1
        refine ⟨fun i hi => ?_, fun c hc hn => ?_, ?_, ?_⟩
        · rw [am_sub_c (S' := S2) (S := S') (fun a c1 c2 => h3 a (by omega) (by omega) (by omega))]; exact u1 i hi
        · rw [am_sub_c (S' := S2) (S := S') (fun a c1 c2 => h3 a (by omega) (by omega) (by omega))]; exact u2 c hc hn
        · rw [h3 38 (by omega) (by omega) (by omega)]; exact u3
        · rw [h3 38 (by omega) (by omega) (by omega)]; exact u4
      · unfold NP at hN ⊢
        rw [g294] at hN
        exact hN
      · rw [e20]; exact h2
      · rw [e20]; exact wG_it rk0 t _ hf hG
      · rw [e20]; exact w_cl_it rk0 t _ hf hc20
      · rw [h3 277 (by omega) (by omega) (by omega)]; exact hK.2.2.2 ht1
      · rw [h3 a c5 c6 c7, f3 a c1 c2 c3 c4]
      · rw [h4 i hi, g285]
  · have hgm := fun z => hg (hiff.mpr z)
    refine bo_ro (v := .int (eg_k_steps S p)) J0 (wg_k_steps (d := 31) hg am_is_i) (wg_m_steps (d := 31) hgm ⟨?_, rfl⟩)
    unfold eg_k_steps eg_m_steps
    rw [eg_steps (gs_iff jW) not_or, e0]
end STEPS
