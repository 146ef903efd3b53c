section BROWS4
variable {X : Nat × (Nat → Int32)} {S S' : Nat → Nat → Int32} {L : Nat → Int64} {g n : Nat}
theorem am_uc_ne (W : Nat → Nat → Int32) {k k' : Nat} {f : Nat → Int32} (h : k' ≠ k) : am_uc W k f k' = W k' := if_neg h
theorem am_uc_eq (W : Nat → Nat → Int32) (k : Nat) (f : Nat → Int32) : am_uc W k f k = f := if_pos rfl
theorem bo_copy (J : JJ S) (p q r s t : Int32) : BO X 21 154 [.int p, .int q, .int r, .int s, .int t] S L := by
  have J0 := J
  obtain ⟨g, n, m, k, jR, -⟩ := J
  by_cases hpr : (∃ a, a < 8 ∧ p = nI a) ∧ ∃ b, b < 8 ∧ r = nI b
  · obtain ⟨hp, hr⟩ := hpr
    have hk := (rw_k p).mpr hp
    have hm := (rw_m p).mpr hp
    have hk2 := (rw_k r).mpr hr
    have hm2 := (rw_m r).mpr hr
    have hix := ix_8 hp
    have hix2 := ix_8 hr
    obtain ⟨a, ha, rfl⟩ := hp
    obtain ⟨b, hb, rfl⟩ := hr
    have ec : (nI a).toNatClampNeg = a := nI_clamp (by omega)
    have ec2 : (nI b).toNatClampNeg = b := nI_clamp (by omega)
    obtain ⟨r1, r2, r3⟩ := jR.1 a ha
    obtain ⟨q1, q2, q3⟩ := jR.1 b hb
    have fail : ∀ k : Int32, ¬ g_k_copy S (nI a) q (nI b) s t → ¬ g_m_copy S (nI a) q (nI b) s t → eg_k_copy S (nI a) q (nI b) s t = (-1000010 - k, am_u S 5 12 k) → (∀ S1 : Nat → Nat → Int32, S1 286 = S 286 → S1 287 = S 287 → eg_m_copy S1 (nI a) q (nI b) s t = (-1000010 - k, am_u S1 285 3 k)) → BO X 21 154 [.int (nI a), .int q, .int (nI b), .int s, .int t] S L := by
      intro k g1 g2 e1 e2
      exact bo_find k J0 (wg_k_copy (d := 35) (fun _ _ => hix) (fun _ _ _ => hix2) g1 (is_p e1 rfl)) (wg_m_copy (d := 35) (fun _ _ => hix) (fun _ _ _ => hix2) g2 (is_p (e2 _ rfl rfl) rfl))
    rcases r3 with r3 | ⟨l, hl, r3⟩
    · have r4 : S 287 a = -1 := r2 ▸ r3
      refine fail 1 ?_ ?_ ?_ (fun S1 h6 h7 => ?_)
      · rintro ⟨-, -, h, -⟩; rw [ec] at h; exact h r3
      · rintro ⟨-, -, h, -⟩; rw [ec, r4] at h; exact h (by decide)
      · unfold eg_k_copy; rw [if_pos hk, if_pos hk2, ec, if_pos r3]
      · unfold eg_m_copy; rw [if_pos hm, if_pos hm2, ec, h7, r4, if_pos (by decide)]
    rcases q3 with q3 | ⟨l2, hl2, q3⟩
    · have q4 : S 287 b = -1 := q2 ▸ q3
      have r4 : S 287 a = nI l := r2 ▸ r3
      have n1 : ¬ S 17 a = -1 := by rw [r3]; exact nI_m1 (by omega)
      have n2 : ¬ S 287 a < 0 := by rw [r4]; exact nI_pos (by omega)
      refine fail 1 ?_ ?_ ?_ (fun S1 h6 h7 => ?_)
      · rintro ⟨-, -, -, h, -⟩; rw [ec2] at h; exact h q3
      · rintro ⟨-, -, -, h, -⟩; rw [ec2, q4] at h; exact absurd h (by decide)
      · unfold eg_k_copy; rw [if_pos hk, if_pos hk2, ec, ec2, if_neg n1, if_pos q3]
      · unfold eg_m_copy; rw [if_pos hm, if_pos hm2, ec, ec2, h7, if_neg n2, q4, if_neg (by decide)]
    have r4 : S 287 a = nI l := r2 ▸ r3
    have q4 : S 287 b = nI l2 := q2 ▸ q3
    have n1 : ¬ S 17 a = -1 := by rw [r3]; exact nI_m1 (by omega)
    have n2 : ¬ S 287 a < 0 := by rw [r4]; exact nI_pos (by omega)
    have n3 : ¬ S 17 b = -1 := by rw [q3]; exact nI_m1 (by omega)
    have n4 : 0 ≤ S 287 b := by rw [q4]; exact nI_pos' (by omega)
    by_cases hlane : S 16 a = S 16 b
    case neg =>
      have hlane2 : ¬ S 286 a = S 286 b := by rw [← r1, ← q1]; exact hlane
      refine fail 5 ?_ ?_ ?_ (fun S1 h6 h7 => ?_)
      · rintro ⟨-, -, -, -, h, -⟩; rw [ec, ec2] at h; exact hlane h
      · rintro ⟨-, -, -, -, h, -⟩; rw [ec, ec2] at h; exact hlane2 h
      · unfold eg_k_copy; rw [if_pos hk, if_pos hk2, ec, ec2, if_neg n1, if_neg n3, if_neg hlane]
      · unfold eg_m_copy; rw [if_pos hm, if_pos hm2, ec, ec2, h7, h6, if_neg n2, if_pos n4, if_neg hlane2]
    have hlane2 : S 286 a = S 286 b := by rw [← r1, ← q1]; exact hlane
    have pa := pl_k hl q t
    have pb := pl_k hl2 s t
    have ma := pl_m hl q t
    have mb := pl_m hl2 s t
    by_cases hA : ∃ f c, f + c ≤ l ∧ q = nI f ∧ t = nI c
    case neg =>
      have c1 := fun z => hA (pa.mp z)
      have c2 := fun z => hA (ma.mp z)
      refine fail 2 ?_ ?_ ?_ (fun S1 h6 h7 => ?_)
      · rintro ⟨-, -, -, -, -, h, -⟩; rw [ec, r3] at h; exact c1 h
      · rintro ⟨-, -, -, -, -, h, -⟩; rw [ec, r4] at h; exact c2 h
      · unfold eg_k_copy; rw [if_pos hk, if_pos hk2, ec, ec2, if_neg n1, if_neg n3, if_pos hlane, if_neg (by rw [r3]; exact c1)]
      · unfold eg_m_copy; rw [if_pos hm, if_pos hm2, ec, ec2, h7, h6, if_neg n2, if_pos n4, if_pos hlane2, if_neg (by rw [r4]; exact c2)]
    by_cases hB : ∃ f c, f + c ≤ l2 ∧ s = nI f ∧ t = nI c
    case neg =>
      have c0 := pa.mpr hA
      have c0' := ma.mpr hA
      have c1 := fun z => hB (pb.mp z)
      have c2 := fun z => hB (mb.mp z)
      refine fail 2 ?_ ?_ ?_ (fun S1 h6 h7 => ?_)
      · rintro ⟨-, -, -, -, -, -, h⟩; rw [ec2, q3] at h; exact c1 h
      · rintro ⟨-, -, -, -, -, -, h⟩; rw [ec2, q4] at h; exact c2 h
      · unfold eg_k_copy; rw [if_pos hk, if_pos hk2, ec, ec2, if_neg n1, if_neg n3, if_pos hlane, if_pos (by rw [r3]; exact c0), if_neg (by rw [q3]; exact c1)]
      · unfold eg_m_copy; rw [if_pos hm, if_pos hm2, ec, ec2, h7, h6, if_neg n2, if_pos n4, if_pos hlane2, if_pos (by rw [r4]; exact c0'), if_neg (by rw [q4]; exact c2)]
    have ka := pa.mpr hA
    have kb := pb.mpr hB
    have mma := ma.mpr hA
    have mmb := mb.mpr hB
    obtain ⟨i, c, hic, rfl, rfl⟩ := hA
    obtain ⟨j, c', hjc, rfl, hcc⟩ := hB
    have : c' = c := by
      by_cases hc' : c' < 2 ^ 31
      · exact ((nI_eq (by omega) hc').mp hcc).symm
      · omega
    subst this
    rw [← r3] at ka
    rw [← q3] at kb
    rw [← r4] at mma
    rw [← q4] at mmb
    obtain ⟨S1, hS1⟩ : ∃ S1, S1 = am_u (am_uc S (8 + 1 * b) (va_cpy (S (8 + 1 * a)) (S (8 + 1 * b)) i j c')) 5 12 0 := ⟨_, rfl⟩
    have f1 : ∀ x, x ≠ 5 → x ≠ 8 + 1 * b → S1 x = S x := fun x h1 h2 => by rw [hS1, am_u_ne _ h1, am_uc_ne _ h2]
    have fin : ∀ S2 : Nat → Nat → Int32, (∀ x, x < 320 → S2 288 x = if 40 * b + j ≤ x ∧ x < 40 * b + j + c' then S 288 (40 * a + i + (x - (40 * b + j))) else S 288 x) → (∀ x, x ≠ 288 → S2 x = am_u S1 285 3 0 x) → JJ S2 := by
      intro S2 h288 hx
      refine JJ_rows J0 ⟨fun y hy => ?_, fun y x hy hxx => ?_⟩ ?_ ?_ ?_ ?_
      · rw [hx 16 (by omega), hx 17 (by omega), hx 286 (by omega), hx 287 (by omega), am_u_ne _ (by omega), am_u_ne _ (by omega), am_u_ne _ (by omega), am_u_ne _ (by omega), f1 16 (by omega) (by omega), f1 17 (by omega) (by omega), f1 286 (by omega) (by omega), f1 287 (by omega) (by omega)]
        exact jR.1 y hy
      · rw [hx _ (by omega), am_u_ne _ (by omega), h288 _ (by omega)]
        by_cases e : y = b
        · subst e
          rw [hS1, am_u_ne _ (by omega), am_uc_eq]
          unfold va_cpy
          by_cases e2 : j ≤ x ∧ x < j + c'
          · rw [if_pos e2, if_pos (by omega), jR.2 a _ ha (by omega)]
            congr 1
            omega
          · rw [if_neg e2, if_neg (by omega)]
            exact jR.2 y x hy hxx
        · rw [f1 _ (by omega) (by omega), if_neg (by omega)]
          exact jR.2 y x hy hxx
      · rw [hx 5 (by omega), hx 285 (by omega), am_u_ne _ (by omega), am_u_eq, hS1, am_u_eq]
      · intro x h1 h2 h3 h4
        rw [hx x (by omega), am_u_ne _ h4, f1 x h3 (by omega)]
      · rw [hx 5 (by omega), am_u_ne _ (by omega), hS1, am_u_at, if_neg (by omega), am_uc_ne _ (by omega)]
      · intro y hy
        rw [hx 285 (by omega), am_u_at, if_neg (fun z => hy z.2), f1 285 (by omega) (by omega)]
    unfold BO
    refine wv_k_copy (d := 35) ⟨hk, hk2, n1, n3, hlane, ka, kb⟩ (fun _ _ => ha) (fun _ _ _ => hb) ha hb (by omega) (by omega) ?_
    refine ⟨_, _, _, rfl, rfl, ?_⟩
    rw [← hS1]
    have g286 : S1 286 = S 286 := f1 286 (by omega) (by omega)
    have g287 : S1 287 = S 287 := f1 287 (by omega) (by omega)
    have g288 : S1 288 = S 288 := f1 288 (by omega) (by omega)
    refine wv_m_copy (d := 35) ?_ (fun _ _ => ha) (fun _ _ _ => hb) (fun cc => ?_) (fun cc => ?_)
    · rw [g286, g287]
      exact ⟨hm, hm2, n2, n4, hlane2, mma, mmb⟩
    · rw [nI_leI (by omega) (by omega)] at cc
      have key : ∀ (k u : Nat) (S2 : Nat → Nat → Int32) (y8 : Option Value), u + k = c' → (∀ x, x < 320 → S2 288 x = if 40 * b + j ≤ x ∧ x < 40 * b + j + u then S 288 (40 * a + i + (x - (40 * b + j))) else S 288 x) → (∀ x, x ≠ 288 → S2 x = am_u S1 285 3 0 x) → am_ex (35 + 4) 154 122 [some (.ref 285), some (.int (nI a)), some (.int (nI i)), some (.int (nI b)), some (.int (nI j)), some (.int (nI c')), some (.int 0), some (.int (nI u)), y8] [] (am_hh X S2 L) (fun r2 h2 => r2 = some (.int (nI c')) ∧ ∃ S2 L2, h2 = am_hh X S2 L2 ∧ JJ S2) := by
        intro k
        induction k with
        | zero =>
          intro u S2 y8 hu h1 h2
          have : u = c' := by omega
          subst this
          exact wl_mcopy0 (d := 35) (fun c => absurd (nI_le (by omega) (by omega)) c) (fun c => absurd (nI_le (by omega) (by omega)) c) (fun _ => ⟨rfl, S2, L, rfl, fin S2 h1 h2⟩) (fun c => absurd (nI_le (by omega) (by omega)) c)
        | succ k ih =>
          intro u S2 y8 hu h1 h2
          refine wl_mcopy0 (d := 35) (fun _ => by omega) (fun _ => by omega) (fun c => absurd c (nI_ge (by omega) (by omega))) (fun _ => ih (u + 1) _ _ (by omega) (fun x hx => ?_) (fun x hx => (am_u_ne S2 hx).trans (h2 x hx)))
          rw [am_u_at]
          by_cases z : x = 40 * b + j + u
          · rw [if_pos ⟨rfl, z⟩, if_pos (by omega), h1 _ (by omega), if_neg (by omega)]
            congr 1
            omega
          · rw [if_neg (fun w => z w.2), h1 x hx]
            by_cases z2 : 40 * b + j ≤ x ∧ x < 40 * b + j + u
            · rw [if_pos z2, if_pos (by omega)]
            · rw [if_neg z2, if_neg (by omega)]
      refine key c' 0 _ none (by omega) (fun x hx => ?_) (fun x hx => rfl)
      rw [if_neg (by omega), am_u_ne _ (by omega), g288]
    · rw [nI_leI (by omega) (by omega)] at cc
      have key : ∀ (k u : Nat) (S2 : Nat → Nat → Int32) (y8 : Option Value), u + k = c' → (∀ x, x < 320 → S2 288 x = if 40 * b + j + k ≤ x ∧ x < 40 * b + j + c' then S 288 (40 * a + i + (x - (40 * b + j))) else S 288 x) → (∀ x, x ≠ 288 → S2 x = am_u S1 285 3 0 x) → am_ex (35 + 4) 154 122 [some (.ref 285), some (.int (nI a)), some (.int (nI i)), some (.int (nI b)), some (.int (nI j)), some (.int (nI c')), some (.int 1), some (.int (nI u)), y8] [] (am_hh X S2 L) (fun r2 h2 => r2 = some (.int (nI c')) ∧ ∃ S2 L2, h2 = am_hh X S2 L2 ∧ JJ S2) := by
        intro k
        induction k with
        | zero =>
          intro u S2 y8 hu h1 h2
          have : u = c' := by omega
          subst this
          refine wl_mcopy1 (d := 35) (fun c => absurd (nI_le (by omega) (by omega)) c) (fun c => absurd (nI_le (by omega) (by omega)) c) (fun c => absurd (nI_le (by omega) (by omega)) c) (fun _ => ⟨rfl, S2, L, rfl, fin S2 (fun x hx => ?_) h2⟩) (fun c => absurd (nI_le (by omega) (by omega)) c)
          rw [h1 x hx]
          rfl
        | succ k ih =>
          intro u S2 y8 hu h1 h2
          have hd : nI c' - 1 - nI u = nI (c' - 1 - u) := by
            rw [show (1 : Int32) = nI 1 from rfl, pk_sub (by omega), pk_sub (by omega)]
          refine wl_mcopy1 (d := 35) (fun _ => hd) (fun _ => by omega) (fun _ => by omega) (fun c => absurd c (nI_ge (by omega) (by omega))) (fun _ => ih (u + 1) _ _ (by omega) (fun x hx => ?_) (fun x hx => (am_u_ne S2 hx).trans (h2 x hx)))
          rw [am_u_at]
          by_cases z : x = 40 * b + j + (c' - 1 - u)
          · rw [if_pos ⟨rfl, z⟩, if_pos (by omega), h1 _ (by omega), if_neg (by omega)]
            congr 1
            omega
          · rw [if_neg (fun w => z w.2), h1 x hx]
            by_cases z2 : 40 * b + j + (k + 1) ≤ x ∧ x < 40 * b + j + c'
            · rw [if_pos z2, if_pos (by omega)]
            · rw [if_neg z2, if_neg (by omega)]
      refine key c' 0 _ none (by omega) (fun x hx => ?_) (fun x hx => rfl)
      rw [if_neg (by omega), am_u_ne _ (by omega), g288]
  · have hn : ¬ ((¬ p < 0 ∧ ¬ 8 ≤ p) ∧ (¬ r < 0 ∧ ¬ 8 ≤ r)) := fun z => hpr ⟨(rw_k p).mp z.1, (rw_k r).mp z.2⟩
    have hn2 : ¬ ((¬ p < 0 ∧ ¬ 7 < p) ∧ (¬ r < 0 ∧ ¬ 7 < r)) := fun z => hpr ⟨(rw_m p).mp z.1, (rw_m r).mp z.2⟩
    have e1 : eg_k_copy S p q r s t = (-1000001, S) := by
      unfold eg_k_copy
      by_cases h1 : ¬ p < 0 ∧ ¬ 8 ≤ p
      · rw [if_pos h1, if_neg (fun z => hn ⟨h1, z⟩)]
      · rw [if_neg h1]
    have e2 : eg_m_copy S p q r s t = (-1000001, S) := by
      unfold eg_m_copy
      by_cases h1 : ¬ p < 0 ∧ ¬ 7 < p
      · rw [if_pos h1, if_neg (fun z => hn2 ⟨h1, z⟩)]
      · rw [if_neg h1]
    exact bo_ro J0 (wg_k_copy (d := 35) (fun c c2 => absurd ⟨c, c2⟩ hn) (fun c c2 _ => absurd ⟨c, c2⟩ hn) (fun c => hn ⟨c.1, c.2.1⟩) (is_p e1 rfl)) (wg_m_copy (d := 35) (fun c c2 => absurd ⟨c, c2⟩ hn2) (fun c c2 _ => absurd ⟨c, c2⟩ hn2) (fun c => hn2 ⟨c.1, c.2.1⟩) (is_p e2 rfl))
end BROWS4
