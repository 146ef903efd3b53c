/-! The model's tries, by the wheel that they stand for. -/
section TRY
variable {d : Nat} {X : Nat × (Nat → Int32)} {S : Nat → Nat → Int32} {L : Nat → Int64} {g n : Nat} {Q : Option Value → am_H → Prop} {W : Nat → Nat → Int32}
/-- all but the row of tries is as it was -/
def F8 (S S' : Nat → Nat → Int32) : Prop := ∀ a, a ≠ 298 → S' a = S a
theorem F8_r : F8 S S := fun _ _ => rfl
theorem F8_t {S1 S2 : Nat → Nat → Int32} (h1 : F8 S S1) (h2 : F8 S1 S2) : F8 S S2 := fun a h => (h2 a h).trans (h1 a h)
theorem F8_u {S1 : Nat → Nat → Int32} {i : Nat} {v : Int32} (h : F8 S S1) : F8 S (am_u S1 298 i v) := fun a q => (am_u_ne S1 q).trans (h a q)
theorem F8_K {S1 : Nat → Nat → Int32} (h : F8 S S1) (hK : JK S) : JK S1 := JK_c hK (h 297 (by decide))
theorem F8_m {S1 : Nat → Nat → Int32} (h : F8 S S1) (hR : mR W S 293 g n) : mR W S1 293 g n := mR_c hR (by rw [h 285 (by decide)]) (by rw [h 285 (by decide)]) (fun i _ => by rw [h 293 (by decide)]) (fun p _ => by rw [h 290 (by decide)]) (fun p _ => by rw [h 291 (by decide)]) (fun p _ => by rw [h 292 (by decide)])
theorem F8_F {S1 : Nat → Nat → Int32} (h : F8 S S1) (hF : mF S g n) : mF S1 g n := by
  unfold mF
  rw [h 285 (by decide), h 297 (by decide)]
  exact hF
theorem mR_F {s : Nat} (h : mR W S s g n) (hK : JK S) : mF S g n := ⟨h.1.2, h.2.1.2, fun j hj => ⟨j, hj, hK j hj⟩⟩
theorem mR_wF {s : Nat} (h : mR W S s g n) : wF W g n := ⟨h.1.1, h.1.2.2, h.2.1.1, h.2.1.2.2.2⟩
theorem rk0_nI : ∀ i, i < 6 → rk0 i = nI i := by decide
theorem rkR_0 (hK : JK S) (hn : n ≤ 6) : rkR rk0 S n := ⟨fun i hi => ⟨i, hi, rk0_nI i (by omega), hK i (by omega)⟩, fun i h1 h2 => ⟨i, h1, h2, rk0_nI i h2⟩⟩
theorem mt_asItIs' (hR : mR W S 293 g n) (hQ : ∀ S', mR W S' 298 g n → F8 S S' → Q none (am_hh X S' L)) : am_mt (d + 1) 195 [.ref 285] (am_hh X S L) Q := by
  refine mt_asItIs (hQ _ ?_ ?_)
  · refine mR_c hR rfl rfl (fun i hi => ?_) (fun _ _ => rfl) (fun _ _ => rfl) (fun _ _ => rfl)
    show va_cpy (S 293) (S 298) 0 0 39 i = S 293 i
    unfold va_cpy
    rw [if_pos (by omega)]
    congr 1
    omega
  · intro a ha
    exact if_neg ha
theorem lm_goes {rk : Nat → Int32} {K : Nat} (hK : K < 2 ^ 31) (hrk : ∀ j, j < 6 → ∃ r, r < 6 ∧ S 297 j = nI r) (hr : rkR rk S n) : ∀ (k j : Nat) (a : Int32) (S1 V : Nat → Nat → Int32), j + k = K → mR V S1 298 g n → F8 S S1 → (∀ S', mR (w_it rk g n k V) S' 298 g n → F8 S S' → Q (some (.int (w_sn rk g n k V a))) (am_hh X S' L)) → am_ex (d + 4) 196 4 [some (.ref 285), some (.int (nI K)), some (.int a), some (.int (nI j))] [] (am_hh X S1 L) Q := by
  intro k
  induction k with
  | zero =>
    intro j a S1 V hj hm hf hQ
    have hF : mF S1 g n := ⟨hm.1.2, hm.2.1.2, by rw [hf 297 (by decide)]; exact hrk⟩
    exact wl_goes hF (fun _ => hQ S1 hm hf) (fun c => absurd (nI_le (by omega) (by omega)) c)
  | succ k ih =>
    intro j a S1 V hj hm hf hQ
    have hF : mF S1 g n := ⟨hm.1.2, hm.2.1.2, by rw [hf 297 (by decide)]; exact hrk⟩
    refine wl_goes hF (fun c => absurd c (nI_ge (by omega) (by omega))) (fun _ => ?_)
    have hr1 : rkR rk S1 n := by
      unfold rkR
      rw [hf 297 (by decide)]
      exact hr
    obtain ⟨h1, h2⟩ := mR_step (Or.inr rfl) hm hr1
    have e : a + bI (!m_sb S1 298 g n) = if w_mb V rk g n = true then a else a + 1 := by
      rw [← h2]
      cases w_mb V rk g n
      · rfl
      · simp [bI]
    rw [e]
    exact ih (j + 1) _ _ _ (by omega) h1 (fun q hq => (m_step_ne S1 298 g n hq).trans (hf q hq)) hQ
theorem mt_goes_r {rk : Nat → Int32} {K : Nat} {v : Int32} (hv : v = nI K) (hK : K < 2 ^ 31) (hrk : ∀ j, j < 6 → ∃ r, r < 6 ∧ S 297 j = nI r) (hr : rkR rk S n) (hm : mR W S 298 g n) (hQ : ∀ S', mR (w_it rk g n K W) S' 298 g n → F8 S S' → Q (some (.int (w_sn rk g n K W 0))) (am_hh X S' L)) : am_mt (d + 4) 196 [.ref 285, .int v] (am_hh X S L) Q := by
  subst hv
  exact wp_goes (lm_goes hK hrk hr K 0 0 S W (by omega) hm F8_r hQ)
theorem mt_goes {K : Nat} {v : Int32} (hv : v = nI K) (hK : K < 2 ^ 31) (hk : JK S) (hm : mR W S 298 g n) (hQ : ∀ S', mR (w_it rk0 g n K W) S' 298 g n → F8 S S' → Q (some (.int (w_sn rk0 g n K W 0))) (am_hh X S' L)) : am_mt (d + 4) 196 [.ref 285, .int v] (am_hh X S L) Q := mt_goes_r hv hK (fun j hj => ⟨j, hj, hk j hj⟩) (rkR_0 hk hm.1.2.2) hm hQ
theorem mt_riddenOf {s : Nat} (hs : am_isT s) (hm : mR W S s g n) (hQ : Q (some (.int (w_sum (W 7) n 0 0))) (am_hh X S L)) : am_mt d 202 [.ref 285, .ref s] (am_hh X S L) Q := by
  have hn := hm.1
  have key : ∀ (k j : Nat) (a : Int32), j + k = n → Q (some (.int (w_sum (W 7) k j a))) (am_hh X S L) → am_ex d 202 4 [some (.ref 285), some (.ref s), some (.int a), some (.int (nI j))] [] (am_hh X S L) Q := by
    intro k
    induction k with
    | zero =>
      intro j a hj hQ
      have c0 : S 285 7 ≤ nI j := by rw [hn.2.1]; exact nI_le (by omega) (by omega)
      exact wl_riddenOf hs (fun c => absurd c0 c) (fun _ => hQ) (fun c => absurd c0 c)
    | succ k ih =>
      intro j a hj hQ
      have c0 : ¬ S 285 7 ≤ nI j := by rw [hn.2.1]; exact nI_ge (by omega) (by omega)
      refine wl_riddenOf hs (fun c => by omega) (fun c => absurd c c0) (fun _ => ih (j + 1) _ (by omega) ?_)
      rw [(hm.2.2.2.2.2.2.2.1 j (by omega)).2.1]
      exact hQ
  exact wp_riddenOf hs (key n 0 0 (by omega) hQ)
theorem mt_bits {v : Int32} (hQ : Q (some (.int (w_bits v))) (am_hh X S L)) : am_mt d 201 [.int v] (am_hh X S L) Q := by
  have key : ∀ (k j : Nat) (a : Int32), j + k = 6 → Q (some (.int (w_bc k j v a))) (am_hh X S L) → am_ex d 201 4 [some (.int v), some (.int a), some (.int (nI j))] [] (am_hh X S L) Q := by
    intro k
    induction k with
    | zero =>
      intro j a hj hQ
      exact wl_bits (fun _ => hQ) (fun c => absurd (nI_le (a := 6) (by omega) (by omega)) c)
    | succ k ih =>
      intro j a hj hQ
      exact wl_bits (fun c => absurd c (nI_ge (b := 6) (by omega) (by omega))) (fun _ => ih (j + 1) _ (by omega) hQ)
  exact wp_bits (key 6 0 0 (by omega) hQ)
theorem mt_byNumbers (hQ : ∀ S', JK S' → (∀ a, a ≠ 297 → S' a = S a) → Q none (am_hh X S' L)) : am_mt d 147 [.ref 285] (am_hh X S L) Q := by
  have key : ∀ (k j : Nat) (S1 : Nat → Nat → Int32), j + k = 6 → (∀ i, i < j → S1 297 i = nI i) → (∀ a, a ≠ 297 → S1 a = S a) → am_ex d 147 2 [some (.ref 285), some (.int (nI j))] [] (am_hh X S1 L) Q := by
    intro k
    induction k with
    | zero =>
      intro j S1 hj h1 h2
      have : j = 6 := by omega
      subst this
      exact wl_byNumbers (fun c => absurd (nI_le (a := 6) (by omega) (by omega)) c) (fun _ => hQ S1 h1 h2) (fun c => absurd (nI_le (a := 6) (by omega) (by omega)) c)
    | succ k ih =>
      intro j S1 hj h1 h2
      refine wl_byNumbers (fun _ => by omega) (fun c => absurd c (nI_ge (b := 6) (by omega) (by omega))) (fun _ => ih (j + 1) _ (by omega) (fun i hi => ?_) (fun a ha => (am_u_ne S1 ha).trans (h2 a ha)))
      rw [am_u_at]
      by_cases q : i = j
      · subst q
        rw [if_pos ⟨rfl, rfl⟩]
      · rw [if_neg (fun z => q z.2)]
        exact h1 i (by omega)
  exact wp_byNumbers (key 6 0 S (by omega) (fun i hi => by omega) (fun _ _ => rfl))
end TRY
