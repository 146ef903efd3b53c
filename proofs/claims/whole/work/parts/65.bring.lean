/-! The model's copying. -/
def m_br (a b i j : Nat) : Nat → Nat → (Nat → Nat → Int32) → Nat → Nat → Int32
  | 0, _, S => S
  | k + 1, t, S => m_br a b i j k (t + 1) (am_u S b (j + t) (S a (i + t)))
theorem m_br_eq {a b i j : Nat} {S : Nat → Nat → Int32} (h : a ≠ b ∨ j ≤ i) : ∀ (k t : Nat), m_br a b i j k t (am_uc S b (va_cpy (S a) (S b) i j t)) = am_uc S b (va_cpy (S a) (S b) i j (t + k))
  | 0, t => rfl
  | k + 1, t => by
    unfold m_br
    have e : am_u (am_uc S b (va_cpy (S a) (S b) i j t)) b (j + t) (am_uc S b (va_cpy (S a) (S b) i j t) a (i + t)) = am_uc S b (va_cpy (S a) (S b) i j (t + 1)) := by
      have e1 : am_uc S b (va_cpy (S a) (S b) i j t) a (i + t) = S a (i + t) := by
        unfold am_uc
        by_cases q : a = b
        · rw [if_pos q]
          unfold va_cpy
          rw [if_neg (by omega), q]
        · rw [if_neg q]
      rw [e1]
      funext c x
      unfold am_u am_uc
      by_cases q : c = b
      · rw [if_pos q, if_pos rfl, if_pos q]
        unfold upd va_cpy
        by_cases z : x = j + t
        · rw [if_pos z, if_pos (by omega)]
          congr 1
          omega
        · rw [if_neg z]
          by_cases z2 : j ≤ x ∧ x < j + t
          · rw [if_pos z2, if_pos (by omega)]
          · rw [if_neg z2, if_neg (by omega)]
      · rw [if_neg q, if_neg q, if_neg q]
    rw [e, m_br_eq h k (t + 1), show t + 1 + k = t + (k + 1) by omega]
theorem lm_bring {d : Nat} {X : Nat × (Nat → Int32)} {L : Nat → Int64} {a b na nb i j n : Nat} {Q : Option Value → am_H → Prop} (ha : ∀ c, am_cf0 X L a c = .inr (.inl (0, na, c))) (hb : ∀ c, am_cf0 X L b c = .inr (.inl (0, nb, c))) (hia : a < 306) (hmb : 5 ≤ b ∧ b < 306) (hna : na ≤ 1000) (hnb : nb ≤ 1000) (h1 : i + n ≤ na) (h2 : j + n ≤ nb) : ∀ (k t : Nat) (S1 : Nat → Nat → Int32), t + k = n → Q none (am_hh X (m_br a b i j k t S1) L) → am_ex d 167 3 [some (.ref a), some (.int (nI i)), some (.ref b), some (.int (nI j)), some (.int (nI n)), some (.int (nI t))] [] (am_hh X S1 L) Q := by
  intro k
  induction k with
  | zero =>
    intro t S1 ht hQ
    refine ax_s (pc' := 5) (st' := [.int (nI t)]) rfl rfl rfl rfl ?_
    refine ax_s (pc' := 7) (st' := [.int (nI n), .int (nI t)]) rfl rfl rfl rfl ?_
    refine ax_cmp_ge rfl (fun c1 => ?_) (fun c1 => absurd (nI_le (by omega) (by omega)) c1)
    refine ax_r rfl rfl rfl ?_
    exact hQ
  | succ k ih =>
    intro t S1 ht hQ
    refine ax_s (pc' := 5) (st' := [.int (nI t)]) rfl rfl rfl rfl ?_
    refine ax_s (pc' := 7) (st' := [.int (nI n), .int (nI t)]) rfl rfl rfl rfl ?_
    refine ax_cmp_ge rfl (fun c1 => absurd c1 (nI_ge (by omega) (by omega))) (fun c1 => ?_)
    refine ax_s (pc' := 11) (st' := [.ref b]) rfl rfl rfl rfl ?_
    refine ax_s (pc' := 12) (st' := [.int (nI j), .ref b]) rfl rfl rfl rfl ?_
    refine ax_s (pc' := 14) (st' := [.int (nI t), .int (nI j), .ref b]) rfl rfl rfl rfl ?_
    refine ax_s (pc' := 15) (st' := [.int (nI j + nI t), .ref b]) rfl rfl rfl rfl ?_
    refine ax_s (pc' := 16) (st' := [.ref a, .int (nI j + nI t), .ref b]) rfl rfl rfl rfl ?_
    refine ax_s (pc' := 17) (st' := [.int (nI i), .ref a, .int (nI j + nI t), .ref b]) rfl rfl rfl rfl ?_
    refine ax_s (pc' := 19) (st' := [.int (nI t), .int (nI i), .ref a, .int (nI j + nI t), .ref b]) rfl rfl rfl rfl ?_
    refine ax_s (pc' := 20) (st' := [.int (nI i + nI t), .ref a, .int (nI j + nI t), .ref b]) rfl rfl rfl rfl ?_
    refine ax_ald (j := i + t) (v := S1 a (i + t)) rfl (ha (S1 a)) (decide_eq_true (show a < 301 + 5 by omega)) (nI_add _ _) (by omega) (by omega) rfl ?_
    refine ax_ast (j := j + t) rfl (hb (S1 b)) (am_mut_iff.mpr ⟨hmb.1, show b < 301 + 5 by omega⟩) (nI_add _ _) (by omega) (by omega) (am_hh_set _ _ _ b (j + t) _ (hb _).symm) ?_
    refine ax_s (pc' := 25) (ls' := [some (.ref a), some (.int (nI i)), some (.ref b), some (.int (nI j)), some (.int (nI n)), some (.int (nI t + 1))]) (st' := []) rfl rfl rfl rfl ?_
    rw [nI_1]
    refine ax_s (pc' := 3) (st' := []) rfl rfl rfl rfl ?_
    exact ih (t + 1) _ (by omega) hQ
theorem mt_bring {d : Nat} {X : Nat × (Nat → Int32)} {S : Nat → Nat → Int32} {L : Nat → Int64} {Q : Option Value → am_H → Prop} (a b na nb i j n : Nat) {vi vj vn : Int32} (ha : ∀ c, am_cf0 X L a c = .inr (.inl (0, na, c))) (hb : ∀ c, am_cf0 X L b c = .inr (.inl (0, nb, c))) (hia : a < 306) (hmb : 5 ≤ b ∧ b < 306) (hna : na ≤ 1000) (hnb : nb ≤ 1000) (h0 : a ≠ b ∨ j ≤ i) (hi : vi = nI i) (hj : vj = nI j) (hn : vn = nI n) (h1 : i + n ≤ na) (h2 : j + n ≤ nb) (hQ : Q none (am_hh X (am_uc S b (va_cpy (S a) (S b) i j n)) L)) : am_mt d 167 [.ref a, .int vi, .ref b, .int vj, .int vn] (am_hh X S L) Q := by
  subst hi
  subst hj
  subst hn
  refine ax_in (ls := [some (.ref a), some (.int (nI i)), some (.ref b), some (.int (nI j)), some (.int (nI n)), none]) rfl ?_
  refine ax_s (pc' := 1) (st' := [.int (nI 0)]) rfl rfl rfl rfl ?_
  refine ax_s (pc' := 3) (ls' := [some (.ref a), some (.int (nI i)), some (.ref b), some (.int (nI j)), some (.int (nI n)), some (.int (nI 0))]) (st' := []) rfl rfl rfl rfl ?_
  refine lm_bring ha hb hia hmb hna hnb h1 h2 n 0 S (by omega) ?_
  have e := m_br_eq (S := S) (i := i) (j := j) h0 n 0
  rw [Nat.zero_add] at e
  have e0 : am_uc S b (va_cpy (S a) (S b) i j 0) = S := by
    funext c x
    unfold am_uc va_cpy
    by_cases q : c = b
    · rw [if_pos q, if_neg (by omega), q]
    · rw [if_neg q]
  rw [e0] at e
  rw [e]
  exact hQ
