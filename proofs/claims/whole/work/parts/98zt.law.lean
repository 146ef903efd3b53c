/-! The law: one call after the other. -/
theorem hh_s0 (X : Nat × (Nat → Int32)) (S : Nat → Nat → Int32) (L : Nat → Int64) : (am_hh X S L).1 0 = .inr (.inl (0, X.1, X.2)) := rfl
theorem ret_int {y : Nat} {i : Instr} {st : List Value} {v : Option Value} (h : am_ret y i st = some v) (ht : (am_M y).2.2.2.1 = some .int) : ∃ x, v = some (.int x) := by
  unfold am_ret at h
  rw [ht] at h
  split at h
  · cases h; exact ⟨_, rfl⟩
  · rename_i e; cases e
  · rename_i e; cases e
  · rename_i e; cases e
  · cases h
theorem ret_long {y : Nat} {i : Instr} {st : List Value} {v : Option Value} (h : am_ret y i st = some v) (ht : (am_M y).2.2.2.1 = some .long) : ∃ x, v = some (.long x) := by
  unfold am_ret at h
  rw [ht] at h
  split at h
  · rename_i e; cases e
  · rename_i e; cases e
  · cases h; exact ⟨_, rfl⟩
  · rename_i e; cases e
  · cases h
theorem run_ret {P : Option Value → Prop} {y : Nat} (hP : ∀ i st v, am_ret y i st = some v → P v) : ∀ n d pc ls st h r h', am_run n d y pc ls st h = some (r, h') → P r := by
  intro n
  induction n with
  | zero => intro d pc ls st h r h' e; cases e
  | succ n ih =>
    intro d pc ls st h r h' e
    rw [am_run] at e
    cases e1 : am_P y pc with
    | none => rw [e1] at e; cases e
    | some q =>
      obtain ⟨i, x, z⟩ := q
      rw [e1] at e
      dsimp only at e
      by_cases c : am_isC i x = true
      · rw [if_pos c] at e
        cases d with
        | zero => cases e
        | succ d' =>
          dsimp only at e
          cases e2 : am_arg i x st h with
          | none => rw [e2] at e; cases e
          | some w =>
            obtain ⟨vs, rr⟩ := w
            rw [e2] at e
            dsimp only at e
            cases e3 : am_run n d' x 0 (am_ent vs (am_M x).2.2.1) [] h with
            | none => rw [e3] at e; cases e
            | some u =>
              obtain ⟨v, h1⟩ := u
              rw [e3] at e
              exact ih _ _ _ _ _ _ _ e
      · rw [if_neg c] at e
        cases e2 : am_ret y i st with
        | some v =>
          rw [e2] at e
          dsimp only at e
          cases e
          exact hP i st r e2
        | none =>
          rw [e2] at e
          dsimp only at e
          cases e3 : am_stp d pc i x ls st h with
          | none => rw [e3] at e; cases e
          | some w =>
            obtain ⟨pc', ls', st', h1⟩ := w
            rw [e3] at e
            exact ih _ _ _ _ _ _ _ e
theorem lgc_r (x : Int64) : lg_cmp x x = 0 := by
  unfold lg_cmp
  rw [if_neg (fun z => Int64.lt_irrefl z), if_pos rfl]
section BOK
variable {X : Nat × (Nat → Int32)} {S : Nat → Nat → Int32} {L : Nat → Int64} {y1 y2 : Nat} {vs : List Value} {Q : Option Value → am_H → Prop}
theorem bo_k (hB : BO X y1 y2 vs S L) (ht : (am_M y1).2.2.2.1 = some .int) (k : ∀ x S1 L1, am_mt 39 y2 (.ref 285 :: vs) (am_hh X S1 L1) (fun r2 h2 => r2 = some (.int x) ∧ ∃ S2 L2, h2 = am_hh X S2 L2 ∧ JJ S2) → Q (some (.int x)) (am_hh X S1 L1)) : am_mt 39 y1 (.ref 5 :: vs) (am_hh X S L) Q := by
  obtain ⟨n, r, h', e, v, S1, L1, rfl, rfl, hm⟩ := hB
  obtain ⟨x, hx⟩ := run_ret (P := fun r => ∃ x, r = some (.int x)) (fun i st v h => ret_int h ht) _ _ _ _ _ _ _ _ e
  cases hx
  exact ⟨n, _, _, e, k x S1 L1 hm⟩
theorem bo_kl (hB : BO X y1 y2 vs S L) (ht : (am_M y1).2.2.2.1 = some .long) (k : ∀ x S1 L1, am_mt 39 y2 (.ref 285 :: vs) (am_hh X S1 L1) (fun r2 h2 => r2 = some (.long x) ∧ ∃ S2 L2, h2 = am_hh X S2 L2 ∧ JJ S2) → Q (some (.long x)) (am_hh X S1 L1)) : am_mt 39 y1 (.ref 5 :: vs) (am_hh X S L) Q := by
  obtain ⟨n, r, h', e, v, S1, L1, rfl, rfl, hm⟩ := hB
  obtain ⟨x, hx⟩ := run_ret (P := fun r => ∃ x, r = some (.long x)) (fun i st v h => ret_long h ht) _ _ _ _ _ _ _ _ e
  cases hx
  exact ⟨n, _, _, e, k x S1 L1 hm⟩
theorem bo_m {x : Int32} (hm : am_mt 39 y2 (.ref 285 :: vs) (am_hh X S L) (fun r2 h2 => r2 = some (.int x) ∧ ∃ S2 L2, h2 = am_hh X S2 L2 ∧ JJ S2)) (k : ∀ S2 L2, JJ S2 → Q (some (.int x)) (am_hh X S2 L2)) : am_mt 39 y2 (.ref 285 :: vs) (am_hh X S L) Q := by
  refine ax_mono hm ?_
  rintro r h ⟨rfl, S2, L2, rfl, J2⟩
  exact k S2 L2 J2
theorem bo_ml {x : Int64} (hm : am_mt 39 y2 (.ref 285 :: vs) (am_hh X S L) (fun r2 h2 => r2 = some (.long x) ∧ ∃ S2 L2, h2 = am_hh X S2 L2 ∧ JJ S2)) (k : ∀ S2 L2, JJ S2 → Q (some (.long x)) (am_hh X S2 L2)) : am_mt 39 y2 (.ref 285 :: vs) (am_hh X S L) Q := by
  refine ax_mono hm ?_
  rintro r h ⟨rfl, S2, L2, rfl, J2⟩
  exact k S2 L2 J2
end BOK
