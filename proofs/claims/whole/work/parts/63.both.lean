/-! Ranges, and the first calls of both: those that only tell. -/
theorem rng_k {n : Nat} (hn : n < 2 ^ 31) (p : Int32) : (¬ p < 0 ∧ ¬ nI n ≤ p) ↔ ∃ j, j < n ∧ p = nI j := by
  constructor
  · rintro ⟨h0, h1⟩
    obtain ⟨j, hj, rfl⟩ := nI_of h0
    refine ⟨j, ?_, rfl⟩
    rw [nI_leI hn hj] at h1
    omega
  · rintro ⟨j, hj, rfl⟩
    exact ⟨nI_pos (by omega), nI_ge hj hn⟩
theorem rng_m {n : Nat} (hn : n < 2 ^ 31) (p : Int32) : (¬ p < 0 ∧ ¬ nI n - 1 < p) ↔ ∃ j, j < n ∧ p = nI j := by
  cases n with
  | zero =>
    constructor
    · rintro ⟨h0, h1⟩
      exfalso
      obtain ⟨j, hj, rfl⟩ := nI_of h0
      apply h1
      rw [Int32.lt_iff_toInt_lt, nI_toInt hj]
      have : (nI 0 - 1).toInt = -1 := by decide
      omega
    · rintro ⟨j, hj, _⟩
      omega
  | succ m =>
    rw [nI_pred]
    constructor
    · rintro ⟨h0, h1⟩
      obtain ⟨j, hj, rfl⟩ := nI_of h0
      refine ⟨j, ?_, rfl⟩
      rw [nI_ltI (by omega) hj] at h1
      omega
    · rintro ⟨j, hj, rfl⟩
      refine ⟨nI_pos (by omega), ?_⟩
      rw [nI_ltI (by omega) (by omega)]
      omega
theorem rng_i {a b : Nat} (hb : b < 2 ^ 31) (hab : a ≤ b) (p : Int32) : (¬ p < nI a ∧ ¬ nI b < p) ↔ ∃ j, a ≤ j ∧ j ≤ b ∧ p = nI j := by
  constructor
  · rintro ⟨h0, h1⟩
    have h00 : ¬ p < 0 := fun q => h0 (Int32.lt_of_lt_of_le q (nI_pos' (by omega)))
    obtain ⟨j, hj, rfl⟩ := nI_of h00
    rw [nI_ltI hj (by omega)] at h0
    rw [nI_ltI (by omega) hj] at h1
    exact ⟨j, by omega, by omega, rfl⟩
  · rintro ⟨j, h1, h2, rfl⟩
    rw [nI_ltI (by omega) (by omega), nI_ltI (by omega) (by omega)]
    omega
theorem cl_add (k : Nat) {j : Nat} (h : k + j < 2 ^ 31) : (nI k + nI j).toNatClampNeg = k + j := by
  rw [nI_add, nI_clamp h]
theorem ix_add (k : Nat) {j n : Nat} (h : k + j < n) (hn : n < 2 ^ 31) : am_ix (nI k + nI j) n = true := am_ix_of (nI_add k j) h hn
theorem ix_n {j n : Nat} (h : j < n) (hn : n < 2 ^ 31) : am_ix (nI j) n = true := am_ix_of rfl h hn
set_option maxRecDepth 100000 in
theorem pl_dec : ((List.range 13).all fun g => (List.range g).all fun q => (List.range g).all fun b => decide ((if nI q < nI b then nI q - nI b + nI g else nI q - nI b) = m_pl (nI g) (nI q) (nI b))) = true := by decide +kernel
theorem pl_eq {W : Nat → Nat → Int32} {g q b : Nat} (hW : W 0 0 = nI g) (hg : g ≤ 12) (hq : q < g) (hb : b < g) : w_pf W (nI q) (nI b) = m_pl (nI g) (nI q) (nI b) := by
  have h1 := List.all_eq_true.mp pl_dec g (List.mem_range.mpr (by omega))
  have h2 := List.all_eq_true.mp h1 q (List.mem_range.mpr hq)
  have h3 := of_decide_eq_true (List.all_eq_true.mp h2 b (List.mem_range.mpr hb))
  rw [← h3]
  unfold w_pf
  rw [hW]
section JLEM
variable {X : Nat × (Nat → Int32)} {S : Nat → Nat → Int32} {L : Nat → Int64} {g n : Nat}
theorem JW_n (h : JW S g n) : S 20 4 = nI n ∧ S 285 7 = nI n ∧ n ≤ 6 := by
  rcases h with ⟨rfl, -, h4, -, -, h7, -⟩ | ⟨-, h, -⟩
  · exact ⟨h4, h7, by omega⟩
  · exact ⟨h.1.1, h.1.2.1, h.1.2.2⟩
theorem JW_g (h : JW S g n) : S 20 0 = nI g ∧ S 285 8 = nI g ∧ g ≤ 12 := by
  rcases h with ⟨-, rfl, -, h0, -, -, h8, -⟩ | ⟨-, h, -⟩
  · exact ⟨h0, h8, by omega⟩
  · exact ⟨h.2.1.1, h.2.1.2.1, h.2.1.2.2.2⟩
theorem JW_wF (h : JW S g n) : wF (am_sub S 20) g n := ⟨(JW_n h).1, (JW_n h).2.2, (JW_g h).1, (JW_g h).2.2⟩
theorem JW_0 (h : JW S g n) : (S 20 4 ≤ 0 ∧ S 285 8 = 0 ∧ n = 0) ∨ (¬ S 20 4 ≤ 0 ∧ ¬ S 285 8 = 0 ∧ 1 ≤ n ∧ mR (am_sub S 20) S 293 g n ∧ wG (am_sub S 20) n) := by
  have hn := JW_n h
  rcases h with ⟨h0, -, h4, -, -, -, h8, -⟩ | ⟨h1, h, hg⟩
  · exact Or.inl ⟨by rw [h4]; decide, h8, h0⟩
  · refine Or.inr ⟨by rw [hn.1]; exact nI_nle (by omega) (by omega), ?_, h1, h, hg⟩
    rw [h.2.1.2.1]
    have := h.2.1.2.2
    exact nI_ne0 (by omega) (by omega)
theorem JW_mF (h : mR (am_sub S 20) S 293 g n) (hk : JK S) : mF S g n := ⟨h.1.2, h.2.1.2, fun j hj => ⟨j, hj, hk j hj⟩⟩
theorem JW_p (h : JW S g n) (p : Int32) : (¬ (¬ p < 0 ∧ ¬ S 20 4 ≤ p) ∧ ¬ (¬ p < 0 ∧ ¬ S 285 7 - 1 < p)) ∨ ∃ j, j < n ∧ p = nI j ∧ (¬ p < 0 ∧ ¬ S 20 4 ≤ p) ∧ (¬ p < 0 ∧ ¬ S 285 7 - 1 < p) := by
  have hn := JW_n h
  rw [hn.1, hn.2.1, rng_k (by omega), rng_m (by omega)]
  by_cases e : ∃ j, j < n ∧ p = nI j
  · obtain ⟨j, h1, h2⟩ := e
    exact Or.inr ⟨j, h1, h2, ⟨j, h1, h2⟩, ⟨j, h1, h2⟩⟩
  · exact Or.inl ⟨e, e⟩
theorem JW_q (h : JW S g n) (p : Int32) : (¬ (¬ p < 0 ∧ ¬ S 20 0 ≤ p) ∧ ¬ (¬ p < 0 ∧ ¬ S 285 8 - 1 < p)) ∨ ∃ j, j < g ∧ p = nI j ∧ (¬ p < 0 ∧ ¬ S 20 0 ≤ p) ∧ (¬ p < 0 ∧ ¬ S 285 8 - 1 < p) := by
  have hn := JW_g h
  rw [hn.1, hn.2.1, rng_k (by omega), rng_m (by omega)]
  by_cases e : ∃ j, j < g ∧ p = nI j
  · obtain ⟨j, h1, h2⟩ := e
    exact Or.inr ⟨j, h1, h2, ⟨j, h1, h2⟩, ⟨j, h1, h2⟩⟩
  · exact Or.inl ⟨e, e⟩
/-- with a party, or a gondola, there is a wheel -/
theorem JW_y (h : JW S g n) {j : Nat} (hj : j < n ∨ j < g) : 1 ≤ n ∧ mR (am_sub S 20) S 293 g n ∧ wG (am_sub S 20) n := by
  rcases h with ⟨rfl, rfl, -⟩ | h
  · omega
  · exact h
theorem bo_ro {y1 y2 : Nat} {vs : List Value} {v : Value} (J : JJ S) (h1 : am_mt 39 y1 (.ref 5 :: vs) (am_hh X S L) (am_is X L v S)) (h2 : am_mt 39 y2 (.ref 285 :: vs) (am_hh X S L) (am_is X L v S)) : BO X y1 y2 vs S L := bo_of h1 h2 J
theorem bo_status (J : JJ S) : BO X 145 237 [] S L := by
  have J0 := J
  obtain ⟨g, n, m, k, jR, jT, jF, -⟩ := J
  refine bo_ro (v := .int (S 5 12)) J0 (w_k_status (d := 33) am_is_i) ?_
  have e : S 5 12 = e_m_status S := jF.1
  rw [e]
  exact w_m_status (d := 33) am_is_i
theorem bo_fault (J : JJ S) : BO X 46 168 [] S L := by
  have J0 := J
  obtain ⟨g, n, m, k, jR, jT, jF, -⟩ := J
  refine bo_ro (v := .int (S 5 11)) J0 (w_k_fault (d := 33) am_is_i) ?_
  have e : S 5 11 = e_m_fault S := jF.2
  rw [e]
  exact w_m_fault (d := 33) am_is_i
theorem bo_kind (J : JJ S) (p : Int32) : BO X 132 221 [.int p] S L := by
  have J0 := J
  obtain ⟨g, n, m, k, jR, jT, jF, jW, -⟩ := J
  have hn := (JW_n jW).2.2
  rcases JW_p jW p with ⟨b1, b2⟩ | ⟨j, hj, rfl, c1, c2⟩
  · refine bo_of (v := .int (-1000001)) (w_k_kind (d := 33) (fun c => absurd c b1) ⟨?_, rfl⟩) (w_m_kind (d := 33) (fun c => absurd c b2) ⟨?_, rfl⟩) J0
    · unfold e_k_kind; rw [if_neg b1]
    · unfold e_m_kind; rw [if_neg b2]
  · obtain ⟨-, hR, -⟩ := JW_y jW (Or.inl hj)
    refine bo_of (v := .int (S 22 j)) (w_k_kind (d := 33) (fun c => ix_n (by omega) (by omega)) ⟨?_, rfl⟩) (w_m_kind (d := 33) (fun c => ix_n (by omega) (by omega)) ⟨?_, rfl⟩) J0
    · unfold e_k_kind; rw [if_pos c1, nI_clamp (by omega)]
    · unfold e_m_kind; rw [if_pos c2, nI_clamp (by omega), (hR.2.2.2.2.2.2.1 j hj).1]; rfl
theorem bo_party (J : JJ S) (p q : Int32) : BO X 75 191 [.int p, .int q] S L := by
  have J0 := J
  obtain ⟨g, n, m, k, jR, jT, jF, jW, -⟩ := J
  have hn := (JW_n jW).2.2
  rcases JW_p jW p with ⟨b1, b2⟩ | ⟨j, hj, rfl, c1, c2⟩
  · refine bo_ro (v := .int (-1000001)) J0 ?_ ?_
    · refine w_k_party (d := 33) ?_ ?_ ?_ ?_ ?_ ?_ ⟨?_, rfl⟩
      all_goals first | (intro c; exact absurd c b1) | (unfold e_k_party; rw [if_neg b1])
    · refine w_m_party (d := 33) ?_ ?_ ?_ ?_ ?_ ?_ ⟨?_, rfl⟩
      all_goals first | (intro c; exact absurd c b2) | (unfold e_m_party; rw [if_neg b2])
  · obtain ⟨-, hR, -⟩ := JW_y jW (Or.inl hj)
    refine bo_ro (v := .int (e_k_party S (nI j) q)) J0 ?_ ?_
    · refine w_k_party (d := 33) ?_ ?_ ?_ ?_ ?_ ?_ am_is_i
      all_goals (intros; exact ix_n (by omega) (by omega))
    · refine w_m_party (d := 33) ?_ ?_ ?_ ?_ ?_ ?_ ⟨?_, rfl⟩
      · intros; exact ix_add 15 (by omega) (by omega)
      · intros; exact ix_add 21 (by omega) (by omega)
      · intros; exact ix_n (by omega) (by omega)
      · intros; exact ix_n (by omega) (by omega)
      · intros; exact ix_add 27 (by omega) (by omega)
      · intros; exact ix_add 33 (by omega) (by omega)
      · have h1 := hR.2.2.2.2.2.2.1 j hj
        have h2 := hR.2.2.2.2.2.2.2.1 j hj
        have h3 := hR.2.2.2.2.2.2.2.2.1 j hj
        have a1 : (15 + nI j : Int32).toNatClampNeg = 15 + j := cl_add 15 (by omega)
        have a2 : (21 + nI j : Int32).toNatClampNeg = 21 + j := cl_add 21 (by omega)
        have a3 : (27 + nI j : Int32).toNatClampNeg = 27 + j := cl_add 27 (by omega)
        have a4 : (33 + nI j : Int32).toNatClampNeg = 33 + j := cl_add 33 (by omega)
        unfold e_k_party e_m_party
        rw [if_pos c1, if_pos c2, nI_clamp (by omega), a1, a2, a3, a4, h1.2.1, h1.2.2, h2.1, h2.2.1, h2.2.2, h3]
        rfl
theorem bo_gondola (J : JJ S) (p q : Int32) : BO X 77 192 [.int p, .int q] S L := by
  have J0 := J
  obtain ⟨g, n, m, k, jR, jT, jF, jW, jK, -⟩ := J
  have hg := (JW_g jW).2.2
  have hn := (JW_n jW).2.2
  rcases JW_q jW p with ⟨b1, b2⟩ | ⟨j, hj, rfl, c1, c2⟩
  · refine bo_ro (v := .int (-1000001)) J0 (w_k_gondola (d := 33) (g := 0) (n := 0) ?_ ?_ ⟨?_, rfl⟩) (w_m_gondola (d := 33) (g := 0) (n := 0) ?_ ?_ ⟨?_, rfl⟩)
    · intro c; exact absurd c b1
    · intro c; exact absurd c b1
    · unfold e_k_gondola; rw [if_neg b1]
    · intro c; exact absurd c b2
    · intro c; exact absurd c b2
    · unfold e_m_gondola; rw [if_neg b2]
  · obtain ⟨-, hR, -⟩ := JW_y jW (Or.inr hj)
    refine bo_ro (v := .int (e_k_gondola S (nI j) q g n)) J0 (w_k_gondola (d := 33) (fun _ _ _ _ _ => JW_wF jW) (fun _ _ _ _ => ix_n (by omega) (by omega)) am_is_i) (w_m_gondola (d := 33) (fun _ => JW_mF hR jK) (fun _ _ _ _ => ix_add 3 (by omega) (by omega)) ⟨?_, rfl⟩)
    obtain ⟨b, hb, e1, e2⟩ := hR.2.2.1
    have a1 : (3 + nI j : Int32).toNatClampNeg = 3 + j := cl_add 3 (by omega)
    have hp := mR_pin hR hj
    have e0 : am_sub S 20 0 2 = S 20 2 := rfl
    rw [e0] at e1
    unfold e_k_gondola e_m_gondola
    rw [if_pos c1, if_pos c2, nI_clamp (by omega), a1, hR.2.2.2.2.2.1 j (by omega), e1, e2, hR.2.1.2.1, hp, w_pin_pi]
    have hpp := pp_eq hR.2.1.1 hg hj hb
    rw [hpp]
    have hpl : w_pf (am_sub S 20) (nI j) (nI b) = m_pl (nI g) (nI j) (nI b) := pl_eq hR.2.1.1 hg hj hb
    rw [hpl]
    cases hw : w_pi (am_sub S 20) (nI j) n 0 with
    | none => rfl
    | some i =>
      have hi := (w_pi_lt _ _ _ _ _ hw).2.1
      dsimp only
      rw [if_pos (nI_pos' (by omega))]
      rfl
theorem bo_stand (J : JJ S) (p : Int32) : BO X 79 193 [.int p] S L := by
  have J0 := J
  obtain ⟨g, n, m, k, jR, jT, jF, jW, jK, -⟩ := J
  rcases JW_0 jW with ⟨b1, b2, -⟩ | ⟨b1, b2, -, hR, -⟩
  · refine bo_ro (v := .int (-1000002)) J0 (w_k_stand (d := 33) (g := 0) (n := 0) ?_ ?_ ?_ ?_ ?_ ?_ ⟨?_, rfl⟩) (w_m_stand (d := 33) (g := 0) (n := 0) ?_ ⟨?_, rfl⟩)
    all_goals first | (intro c; exact absurd b1 c) | (intro c; exact absurd b2 c) | (unfold e_k_stand; rw [if_pos b1]) | (unfold e_m_stand; rw [if_pos b2])
  · refine bo_ro (v := .int (e_m_stand S p g n)) J0 (w_k_stand (d := 33) (g := g) (n := n) ?_ ?_ ?_ ?_ ?_ ?_ ⟨?_, rfl⟩) (w_m_stand (d := 33) (fun _ => JW_mF hR jK) am_is_i)
    · intros; exact JW_wF jW
    · intros; exact JW_wF jW
    · intros; exact JW_wF jW
    · intros; exact JW_wF jW
    · intros; exact JW_wF jW
    · intros; exact JW_wF jW
    · obtain ⟨b, hb, e1, e2⟩ := hR.2.2.1
      have e0 : am_sub S 20 0 2 = S 20 2 := rfl
      have e00 : am_sub S 20 0 0 = S 20 0 := rfl
      have e01 : am_sub S 20 0 1 = S 20 1 := rfl
      rw [e0] at e1
      have hg := hR.2.1
      rw [e00] at hg
      have hl := hR.2.2.2.1
      rw [e01] at hl
      have hbal : ∀ x, m_bal S 293 x = w_bal (am_sub S 20) x := fun x => by unfold m_bal w_bal; rw [hl, e01]
      unfold e_k_stand e_m_stand
      rw [if_neg b1, if_neg b2, e1, e2, mR_lean hR hb, hg.1, hg.2.1, hl, hbal, mR_wh hR 0 n 0 0 (by omega), mR_wh hR 1 n 0 0 (by omega), mR_wh hR 2 n 0 0 (by omega), mR_wh hR 3 n 0 0 (by omega)]
      congr 2
      by_cases h0 : p = 0
      · rw [if_pos h0, if_pos h0]
      rw [if_neg h0, if_neg h0]
      by_cases h1 : p = 1
      · rw [if_pos h1, if_pos h1]
      rw [if_neg h1, if_neg h1]
      by_cases h2 : p = 2
      · rw [if_pos h2, if_pos h2]
      rw [if_neg h2, if_neg h2]
      by_cases h3 : p = 3
      · rw [if_pos h3, if_pos h3]
      rw [if_neg h3, if_neg h3]
      by_cases h4 : p = 4
      · rw [if_pos h4, if_pos h4]
      rw [if_neg h4, if_neg h4]
      by_cases h5 : p = 5
      · subst h5; rfl
      rw [if_neg h5]
      by_cases h6 : p = 6
      · subst h6; rfl
      rw [if_neg h6]
      by_cases h7 : p = 7
      · subst h7; rfl
      rw [if_neg h7]
      by_cases h8 : p = 8
      · subst h8; rfl
      rw [if_neg h8, if_neg]
      rintro h9
      obtain ⟨j, a1, a2, rfl⟩ := (rng_i (a := 5) (b := 8) (by omega) (by omega) p).mp h9
      have : j = 5 ∨ j = 6 ∨ j = 7 ∨ j = 8 := by omega
      rcases this with rfl | rfl | rfl | rfl
      · exact h5 rfl
      · exact h6 rfl
      · exact h7 rfl
      · exact h8 rfl
theorem bo_trace (J : JJ S) (p : Int32) : BO X 141 233 [.int p] S L := by
  have J0 := J
  obtain ⟨g, n, m, k, jR, jT, jF, jW, jK, jA, jI, jP, ⟨⟨t, ht, t1, t2⟩, jQ⟩, -⟩ := J
  have r1 := rng_k (n := t) (by omega) p
  have r2 := rng_m (n := t) (by omega) p
  by_cases e : ∃ j, j < t ∧ p = nI j
  · obtain ⟨j, hj, rfl⟩ := e
    have q1 := r1.mpr ⟨j, hj, rfl⟩
    have q2 := r2.mpr ⟨j, hj, rfl⟩
    rw [← t1] at q1
    rw [← t2] at q2
    refine bo_ro (v := .int (S 284 j)) J0 (w_k_trace (d := 33) (fun _ _ _ => ix_n (by omega) (by omega)) ⟨?_, rfl⟩) (w_m_trace (d := 33) (fun _ => ix_n (by omega) (by omega)) ⟨?_, rfl⟩)
    · unfold e_k_trace
      rw [if_neg q1.1, if_neg q1.2, if_neg (show ¬ (16 : Int32) ≤ nI j from nI_ge (b := 16) (by omega) (by omega)), nI_clamp (by omega)]
    · unfold e_m_trace
      rw [if_pos q2, nI_clamp (by omega), jQ j (by omega)]
  · have q1 : ¬ (¬ p < 0 ∧ ¬ S 283 2 ≤ p) := by rw [t1, r1]; exact e
    have q2 : ¬ (¬ p < 0 ∧ ¬ S 285 20 - 1 < p) := by rw [t2, r2]; exact e
    refine bo_ro (v := .int (-1000000)) J0 (w_k_trace (d := 33) (fun c1 c2 _ => absurd ⟨c1, c2⟩ q1) ⟨?_, rfl⟩) (w_m_trace (d := 33) (fun c => absurd c q2) ⟨?_, rfl⟩)
    · unfold e_k_trace
      by_cases h0 : p < 0
      · rw [if_pos h0]
      · have : S 283 2 ≤ p := Decidable.byContradiction (fun z => q1 ⟨h0, z⟩)
        rw [if_neg h0, if_pos this]
    · unfold e_m_trace
      rw [if_neg q2]
end JLEM
