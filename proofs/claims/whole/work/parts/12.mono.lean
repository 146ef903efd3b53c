/-! What an instruction and a run keep: how many locals there are; cells are made, never lost. -/
theorem am_stp_inv {d pc x : Nat} {i : Instr} {ls : am_L} {st : List Value} {h : am_H} {r : am_R} (hs : am_stp d pc i x ls st h = some r) : r.2.1.length = ls.length ∧ h.2.1 ≤ r.2.2.2.2.1 ∧ h.2.2 ≤ r.2.2.2.2.2 := by
  have hj : ∀ {pc : Nat} {off : Int} {ls : am_L} {st : List Value} {h : am_H} {r : am_R}, am_jmp pc off ls st h = some r → r.2.1.length = ls.length ∧ h.2.1 ≤ r.2.2.2.2.1 ∧ h.2.2 ≤ r.2.2.2.2.2 := by
    intro pc off ls st h r q
    obtain ⟨t, -, rfl⟩ := am_jmp_ok q
    exact ⟨rfl, Nat.le_refl _, Nat.le_refl _⟩
  have hv : ∀ {t k pc : Nat} {ls : am_L} {st : List Value} {h : am_H} {r : am_R}, am_sv t k pc ls st h = some r → r.2.1.length = ls.length ∧ h.2.1 ≤ r.2.2.2.2.1 ∧ h.2.2 ≤ r.2.2.2.2.2 := by
    intro t k pc ls st h r q
    obtain ⟨v, r0, -, -, -, rfl⟩ := am_sv_ok q
    exact ⟨am_st_len _ _ _, Nat.le_refl _, Nat.le_refl _⟩
  unfold am_stp at hs
  split at hs
  all_goals first
    | exact hv hs
    | (cases hs; exact ⟨rfl, Nat.le_refl _, Nat.le_refl _⟩)
    | (simp only [am_ld, am_b2, am_bd, am_l2, am_lq, am_un, am_get, am_put, am_ald, am_ast, am_qld, am_qst, am_len1, am_new, am_nwa, am_nwq, am_nwg, am_cpy] at hs
       repeat' split at hs
       all_goals first
         | contradiction
         | exact hj hs
         | (cases hs; exact ⟨rfl, Nat.le_refl _, Nat.le_refl _⟩)
         | (cases hs; exact ⟨am_st_len _ _ _, Nat.le_refl _, Nat.le_refl _⟩)
         | (cases hs; refine ⟨rfl, ?_, ?_⟩ <;> simp only [am_push] <;> omega))
    | (repeat' split at hs
       all_goals first
         | contradiction
         | exact hj hs
         | (cases hs; exact ⟨rfl, Nat.le_refl _, Nat.le_refl _⟩)
         | (cases hs; exact ⟨am_st_len _ _ _, Nat.le_refl _, Nat.le_refl _⟩))
theorem am_run_mono : ∀ (n d y pc : Nat) (ls : am_L) (st : List Value) (h : am_H) (r : Option Value × am_H), am_run n d y pc ls st h = some r → h.2.1 ≤ r.2.2.1 ∧ h.2.2 ≤ r.2.2.2
  | 0, _, _, _, _, _, _, _, hs => by simp [am_run] at hs
  | n + 1, d, y, pc, ls, st, h, r, hs => by
    unfold am_run at hs
    split at hs
    · cases hs
    · rename_i i x z hP
      split at hs
      · split at hs
        · cases hs
        · split at hs
          · cases hs
          · rename_i vs rr ha
            split at hs
            · cases hs
            · rename_i v h1 h1r
              have a1 := am_run_mono n _ _ _ _ _ _ _ h1r
              have a2 := am_run_mono n _ _ _ _ _ _ _ hs
              exact ⟨Nat.le_trans a1.1 a2.1, Nat.le_trans a1.2 a2.2⟩
      · split at hs
        · cases hs
          exact ⟨Nat.le_refl _, Nat.le_refl _⟩
        · split at hs
          · cases hs
          · rename_i pc' ls' st' h1 h1s
            have a1 := am_stp_inv h1s
            have a2 := am_run_mono n _ _ _ _ _ _ _ hs
            exact ⟨Nat.le_trans a1.2.1 a2.1, Nat.le_trans a1.2.2 a2.2⟩
