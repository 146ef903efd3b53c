section BROWS3
variable {X : Nat × (Nat → Int32)} {S S' : Nat → Nat → Int32} {L : Nat → Int64} {g n : Nat}
theorem i32_bmod (v : Int32) : v.toInt = Int.bmod (v.toBitVec.toNat : Int) (2 ^ 32) := BitVec.toInt_eq_toNat_bmod v.toBitVec
/-- narrowing in the model's words -/
theorem cut8 (v : Int32) : (v <<< (24 &&& 31)) >>> (24 &&& 31) = v.toInt8.toInt32 := by
  have e : (24 : Int32) &&& 31 = 24 := by decide
  rw [e]
  apply Int32.toInt_inj.mp
  rw [pk_shr (v <<< 24) 24 24 (by decide), i32_bmod, pk_shl v 24 24 (by decide), Int8.toInt_toInt32, Int32.toInt_toInt8, i32_bmod v, Int.shiftRight_eq_div_pow]
  have hu : v.toBitVec.toNat < 2 ^ 32 := v.toBitVec.isLt
  generalize v.toBitVec.toNat = u at hu
  simp only [Int.bmod]
  split <;> split <;> split <;> omega
theorem cut16 (v : Int32) : (v <<< (16 &&& 31)) >>> (16 &&& 31) = v.toInt16.toInt32 := by
  have e : (16 : Int32) &&& 31 = 16 := by decide
  rw [e]
  apply Int32.toInt_inj.mp
  rw [pk_shr (v <<< 16) 16 16 (by decide), i32_bmod, pk_shl v 16 16 (by decide), Int16.toInt_toInt32, Int32.toInt_toInt16, i32_bmod v, Int.shiftRight_eq_div_pow]
  have hu : v.toBitVec.toNat < 2 ^ 32 := v.toBitVec.isLt
  generalize v.toBitVec.toNat = u at hu
  simp only [Int.bmod]
  split <;> split <;> split <;> omega
/-- item i of the row a is written by both -/
theorem JJ_item (J : JJ S) {a i : Nat} (ha : a < 8) (hi : i < 40) (v : Int32) : JJ (am_u (am_u (am_u (am_u S (8 + 1 * a) i v) 5 12 0) 285 3 0) 288 (40 * a + i) v) := by
  have J0 := J
  obtain ⟨g, n, m, k, jR, -⟩ := J
  refine JJ_rows J0 ⟨fun r hr => ?_, fun r x hr hx => ?_⟩ ?_ ?_ ?_ ?_
  · have := jR.1 r hr
    rw [am_u_ne _ (by omega), am_u_ne _ (by omega), am_u_ne _ (by omega), am_u_ne _ (by omega), am_u_ne _ (by omega), am_u_ne _ (by omega), am_u_ne _ (by omega), am_u_ne _ (by omega), am_u_ne _ (by omega), am_u_ne _ (by omega), am_u_ne _ (by omega), am_u_ne _ (by omega), am_u_ne _ (by omega), am_u_ne _ (by omega), am_u_ne _ (by omega), am_u_ne _ (by omega)]
    exact this
  · rw [am_u_ne _ (by omega), am_u_ne _ (by omega), am_u_ne _ (by omega), am_u_at, am_u_at, am_u_ne _ (by omega), am_u_ne _ (by omega), am_u_ne _ (by omega)]
    by_cases e : r = a ∧ x = i
    · rw [if_pos (by omega), if_pos (by omega)]
    · rw [if_neg (by omega), if_neg (by omega)]
      exact jR.2 r x hr hx
  · rw [am_u_ne _ (by omega), am_u_ne _ (by omega), am_u_eq, am_u_ne _ (by omega), am_u_eq]
  · intro b h1 h2 h3 h4
    rw [am_u_ne _ (by omega), am_u_ne _ h4, am_u_ne _ h3, am_u_ne _ (by omega)]
  · rw [am_u_ne _ (by omega), am_u_ne _ (by omega), am_u_at, if_neg (by omega), am_u_ne _ (by omega)]
  · intro j hj
    rw [am_u_ne _ (by omega), am_u_at, if_neg (fun z => hj z.2), am_u_ne _ (by omega), am_u_ne _ (by omega)]
theorem bo_set (J : JJ S) (p q r : Int32) : BO X 16 152 [.int p, .int q, .int r] S L := by
  have J0 := J
  obtain ⟨g, n, m, k, jR, -⟩ := J
  by_cases hp : ∃ a, a < 8 ∧ p = nI a
  · have hk := (rw_k p).mpr hp
    have hm := (rw_m p).mpr hp
    have hix := ix_8 hp
    obtain ⟨a, ha, rfl⟩ := hp
    have ec : (nI a).toNatClampNeg = a := nI_clamp (by omega)
    obtain ⟨r1, r2, r3⟩ := jR.1 a ha
    rcases r3 with r3 | ⟨l, hl, r3⟩
    · have r4 : S 287 a = -1 := r2 ▸ r3
      have e1 : eg_k_set S (nI a) q r = (-1000010 - 1, am_u S 5 12 1) := by unfold eg_k_set; rw [if_pos hk, ec, if_pos r3]
      have e2 : ∀ S1 : Nat → Nat → Int32, S1 287 a = -1 → eg_m_set S1 (nI a) q r = (-1000010 - 1, am_u S1 285 3 1) := fun S1 h => by unfold eg_m_set; rw [if_pos hm, ec, h, if_neg (by decide)]
      refine bo_find 1 J0 (wg_k_set (d := 35) (fun _ => hix) ?_ (is_p e1 rfl)) (wg_m_set (d := 35) (fun _ => hix) ?_ (is_p (e2 _ r4) rfl))
      · rintro ⟨-, h, -⟩; rw [ec] at h; exact h r3
      · rintro ⟨-, h, -⟩
        rw [ec] at h
        have h' : 0 ≤ S 287 a := h
        rw [r4] at h'
        exact absurd h' (by decide)
    · have r4 : S 287 a = nI l := r2 ▸ r3
      have hl1 : ¬ S 17 a = -1 := by rw [r3]; exact nI_m1 (by omega)
      have hl2 : 0 ≤ S 287 a := by rw [r4]; exact nI_pos' (by omega)
      have pk := pl_k hl q 1
      have pm := rng_m (n := l) (by omega) q
      by_cases hq : ∃ i, i < l ∧ q = nI i
      · obtain ⟨i, hi, rfl⟩ := hq
        have c1 : ¬ nI i < 0 ∧ ¬ (1 : Int32) < 0 ∧ ¬ S 17 a < nI i ∧ ¬ S 17 a - nI i < (1 : Int32) := by
          rw [r3]; exact pk.mpr ⟨i, 1, by omega, rfl, rfl⟩
        have c2 : ¬ nI i < 0 ∧ ¬ S 287 a - 1 < nI i := by rw [r4]; exact pm.mpr ⟨i, hi, rfl⟩
        have go : ∀ v : Int32, ((S 16 a = 0 → r.toInt8.toInt32 = v) ∧ (¬ S 16 a = 0 → S 16 a = 1 → r.toInt16.toInt32 = v) ∧ (¬ S 16 a = 0 → ¬ S 16 a = 1 → r = v)) → BO X 16 152 [.int (nI a), .int (nI i), .int r] S L := by
          rintro v ⟨v0, v1, v2⟩
          refine bo_of (v := .int v) (S1 := am_u (am_u S (8 + 1 * a) i v) 5 12 0) (S2 := am_u (am_u (am_u (am_u S (8 + 1 * a) i v) 5 12 0) 285 3 0) 288 (40 * a + i) v) (L1 := L) (L2 := L) (wv_k_set (d := 35) ⟨hk, hl1, c1⟩ (fun _ => ha) ha (fun _ => by omega) (fun _ _ => by omega) (fun _ _ => by omega) ?_ ?_ ?_) ?_ (JJ_item J0 ha (by omega) v)
          · intro c; rw [v0 c]; exact ⟨rfl, rfl⟩
          · intro c c'; rw [v1 c c']; exact ⟨rfl, rfl⟩
          · intro c c'; rw [v2 c c']; exact ⟨rfl, rfl⟩
          · have s287 : (am_u (am_u S (8 + 1 * a) i v) 5 12 0) 287 = S 287 := by rw [am_u_ne _ (by omega), am_u_ne _ (by omega)]
            have s286 : (am_u (am_u S (8 + 1 * a) i v) 5 12 0) 286 a = S 16 a := by rw [am_u_ne _ (by omega), am_u_ne _ (by omega), r1]
            refine wv_m_set (d := 35) ?_ (fun _ => ha) ha (fun _ _ => by omega) (fun _ _ => by omega) (fun _ => by omega) ?_ ?_ ?_
            · rw [s287]; exact ⟨hm, hl2, c2⟩
            · intro c c'; rw [s286] at c c'; rw [am_u_eq, v2 c c']; exact ⟨rfl, rfl⟩
            · intro c c'; rw [s286] at c c'; rw [am_u_eq, cut16, v1 c c']; exact ⟨rfl, rfl⟩
            · intro c; rw [s286] at c; rw [am_u_eq, cut8, v0 c]; exact ⟨rfl, rfl⟩
        by_cases h0 : S 16 a = 0
        · exact go _ ⟨fun _ => rfl, fun c => absurd h0 c, fun c => absurd h0 c⟩
        · by_cases h1 : S 16 a = 1
          · exact go _ ⟨fun c => absurd c h0, fun _ _ => rfl, fun _ c => absurd h1 c⟩
          · exact go _ ⟨fun c => absurd c h0, fun _ c => absurd c h1, fun _ _ => rfl⟩
      · have c1 : ¬ (¬ q < 0 ∧ ¬ (1 : Int32) < 0 ∧ ¬ S 17 a < q ∧ ¬ S 17 a - q < (1 : Int32)) := by
          rw [r3]
          intro z
          obtain ⟨f, c, h1, h2, h3⟩ := pk.mp z
          have h3' : nI c = nI 1 := h3.symm
          rw [nI_eq (by omega) (by omega)] at h3'
          exact hq ⟨f, by omega, h2⟩
        have c2 : ¬ (¬ q < 0 ∧ ¬ S 287 a - 1 < q) := by
          rw [r4]
          exact fun z => hq (pm.mp z)
        have e1 : eg_k_set S (nI a) q r = (-1000010 - 2, am_u S 5 12 2) := by unfold eg_k_set; rw [if_pos hk, ec, if_neg hl1, if_neg c1]
        have e2 : ∀ S1 : Nat → Nat → Int32, S1 287 = S 287 → eg_m_set S1 (nI a) q r = (-1000010 - 2, am_u S1 285 3 2) := fun S1 h => by unfold eg_m_set; rw [if_pos hm, ec, h, if_pos hl2, if_neg c2]
        refine bo_find 2 J0 (wg_k_set (d := 35) (fun _ => hix) ?_ (is_p e1 rfl)) (wg_m_set (d := 35) (fun _ => hix) ?_ (is_p (e2 _ rfl) rfl))
        · rintro ⟨-, -, h⟩; rw [ec] at h; exact c1 h
        · rintro ⟨-, -, h⟩; rw [ec] at h; exact c2 h
  · have hk : ¬ (¬ p < 0 ∧ ¬ 8 ≤ p) := fun z => hp ((rw_k p).mp z)
    have hm : ¬ (¬ p < 0 ∧ ¬ 7 < p) := fun z => hp ((rw_m p).mp z)
    have e1 : eg_k_set S p q r = (-1000001, S) := by unfold eg_k_set; rw [if_neg hk]
    have e2 : eg_m_set S p q r = (-1000001, S) := by unfold eg_m_set; rw [if_neg hm]
    exact bo_ro J0 (wg_k_set (d := 35) (fun c => absurd c hk) (fun c => hk c.1) (is_p e1 rfl)) (wg_m_set (d := 35) (fun c => absurd c hm) (fun c => hm c.1) (is_p e2 rfl))
end BROWS3
