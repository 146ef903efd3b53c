/-! One instruction, whichever it is. -/
theorem am_g1 : Jvm.Cond.native arraycopyName ∈ am_TB := am_tbm (z := 454) (by decide +kernel) (by decide +kernel)
theorem am_g2 : Jvm.Cond.static arraycopyName ∈ am_TB := am_tbm (z := 453) (by decide +kernel) (by decide +kernel)
theorem am_g3 : Jvm.Cond.initialized "java/lang/System" ∈ am_TB := am_tbm (z := 87) (by decide +kernel) (by decide +kernel)
theorem am_g4 : Jvm.Cond.arrayClass .int ∈ am_TB := am_tbm (z := 118) (by decide +kernel) (by decide +kernel)
theorem am_g5 : Jvm.Cond.arrayClass .boolean ∈ am_TB := am_tbm (z := 1100) (by decide +kernel) (by decide +kernel)
theorem am_g6 : Jvm.Cond.instanceMethod Lib.objectInit ∈ am_TB := am_tbm (z := 97) (by decide +kernel) (by decide +kernel)
theorem am_g7 : Jvm.Cond.code Lib.objectInit ⟨#[0xb1]⟩ 1 none ∈ am_TB := am_tbm (z := 98) (by decide +kernel) (by decide +kernel)

theorem am_dec {y pc : Nat} {i : Instr} (h : am_chD y pc i = true) : (am_len i ≠ 0 → decode (am_M y).2.1 pc = .ok (i, am_len i)) ∧ ∃ n, decode (am_M y).2.1 pc = .ok (i, n) := by
  unfold am_chD at h
  split at h
  · rename_i j n hj
    simp only [Bool.and_eq_true, Bool.or_eq_true, decide_eq_true_eq] at h
    obtain ⟨rfl, h2⟩ := h
    refine ⟨fun q => ?_, n, hj⟩
    rcases h2 with h2 | h2
    · rw [h2]; exact hj
    · exact absurd h2 q
  · cases h
section AMS
variable {G : am_G} {p : Program} {l : Launch} {e : Env} {R : Room} {s : State} {m : MethodId} {args : Array Value} {below : List Frame} {meth : Method} {c : Code} {n0 s0 y : Nat} {Q : State → Prop}
theorem am_jmp_ok {pc : Nat} {off : Int} {ls : am_L} {st : List Value} {h : am_H} {r : am_R} (hs : am_jmp pc off ls st h = some r) : ∃ t : Nat, (pc : Int) + off = (t : Int) ∧ r = (t, ls, st, h) := by
  unfold am_jmp at hs
  split at hs
  · rename_i h0
    cases hs
    exact ⟨_, (Int.toNat_of_nonneg h0).symm, rfl⟩
  · cases hs
theorem am_sv_ok {t k pc : Nat} {ls : am_L} {st : List Value} {h : am_H} {r : am_R} (hs : am_sv t k pc ls st h = some r) : ∃ v r0, st = v :: r0 ∧ am_vk v = t ∧ k + (if t = 1 then 1 else 0) < ls.length ∧ r = (pc, am_st ls k v, r0, h) := by
  unfold am_sv at hs
  cases st with
  | nil => cases hs
  | cons v r0 =>
    dsimp only at hs
    by_cases hk : am_vk v = t ∧ k + (if t = 1 then 1 else 0) < ls.length
    · rw [if_pos hk] at hs
      cases hs
      exact ⟨v, r0, rfl, hk.1, hk.2, rfl⟩
    · rw [if_neg hk] at hs
      cases hs
set_option maxHeartbeats 4000000 in
theorem am_step (hg : am_nwgP) (X : am_Cx G p s m args meth c y n0) {pc x z d : Nat} {i : Instr} (hch : am_chk y pc (i, x, z) = true) {ls : am_L} {st : List Value} {h : am_H} {r : am_R} (hlen : ls.length = (am_M y).2.2.1) (hs : am_stp d pc i x ls st h = some r) (hfr : d ≤ R.frames) (hlo : 48 * d ≤ R.locals) (hrc : r.2.2.2.2.1 ≤ R.cells + n0) (hrs : r.2.2.2.2.2 ≤ R.slots + s0) (k : am_Wa G p l e R s m args below meth c n0 s0 Q r.1 r.2.1 r.2.2.1 r.2.2.2) : am_Wa G p l e R s m args below meth c n0 s0 Q pc ls st h := by
  have X0 := X
  obtain ⟨hx, hb, hml, hown, hts, hK, hF, hN, hz, hin⟩ := X
  unfold am_chk at hch
  simp only [Bool.and_eq_true] at hch
  obtain ⟨hcD, hcL⟩ := hch
  obtain ⟨hd, hdn⟩ := am_dec hcD
  have harr : (Jvm.Cond.arrayClass .int).before args s = true ∧ (Jvm.Cond.arrayClass .boolean).before args s = true := ⟨hts _ am_g4, hts _ am_g5⟩
  cases i with
  | iconst n =>
    simp only [am_stp] at hs
    cases hs
    intro Ls H locs cells slots hl hM hS hc hsl
    exact lv_iconst hx hb (hd (by simp [am_len])) rfl (k Ls H locs cells slots hl hM hS hc hsl)
  | bipush n =>
    simp only [am_stp] at hs
    cases hs
    intro Ls H locs cells slots hl hM hS hc hsl
    exact lv_bipush hx hb (hd (by simp [am_len])) rfl (k Ls H locs cells slots hl hM hS hc hsl)
  | sipush n =>
    simp only [am_stp] at hs
    cases hs
    intro Ls H locs cells slots hl hM hS hc hsl
    exact lv_sipush hx hb (hd (by simp [am_len])) rfl (k Ls H locs cells slots hl hM hS hc hsl)
  | lconst n =>
    simp only [am_stp] at hs
    cases hs
    intro Ls H locs cells slots hl hM hS hc hsl
    exact lv_lconst hx hb (hd (by simp [am_len])) rfl (k Ls H locs cells slots hl hM hS hc hsl)
  | ldc n =>
    simp only [am_stp] at hs
    cases hs
    intro Ls H locs cells slots hl hM hS hc hsl
    exact lv_ldc hx hb hown (hts _ (am_qz_tb hcL)) (hd (by simp [am_len])) (k Ls H locs cells slots hl hM hS hc hsl)
  | ldc_w n =>
    simp only [am_stp] at hs
    cases hs
    intro Ls H locs cells slots hl hM hS hc hsl
    exact lv_ldcw hx hb hown (hts _ (am_qz_tb hcL)) (hd (by simp [am_len])) (k Ls H locs cells slots hl hM hS hc hsl)
  | ldc2_w n =>
    simp only [am_stp] at hs
    cases hs
    intro Ls H locs cells slots hl hM hS hc hsl
    exact lv_ldc2 hx hb hown (hts _ (am_qz_tb hcL)) (hd (by simp [am_len])) (k Ls H locs cells slots hl hM hS hc hsl)
  | iload q =>
    simp only [am_stp, am_ld] at hs
    split at hs
    · rename_i v hv
      split at hs
      · rename_i hk
        cases hs
        obtain ⟨w, rfl⟩ := am_vk0 hk
        intro Ls H locs cells slots hl hM hS hc hsl
        exact lv_iload hx hb (hd (by simp [am_len])) (am_lv_at hl hv) (k Ls H locs cells slots hl hM hS hc hsl)
      · cases hs
    · cases hs
  | iload_n q =>
    simp only [am_stp, am_ld] at hs
    split at hs
    · rename_i v hv
      split at hs
      · rename_i hk
        cases hs
        obtain ⟨w, rfl⟩ := am_vk0 hk
        intro Ls H locs cells slots hl hM hS hc hsl
        exact lv_iload_n hx hb (hd (by simp [am_len])) rfl (am_lv_at hl hv) (k Ls H locs cells slots hl hM hS hc hsl)
      · cases hs
    · cases hs
  | lload q =>
    simp only [am_stp, am_ld] at hs
    split at hs
    · rename_i v hv
      split at hs
      · rename_i hk
        cases hs
        obtain ⟨w, rfl⟩ := am_vk1 hk
        intro Ls H locs cells slots hl hM hS hc hsl
        exact lv_lload hx hb (hd (by simp [am_len])) (am_lv_at hl hv) (k Ls H locs cells slots hl hM hS hc hsl)
      · cases hs
    · cases hs
  | lload_n q =>
    simp only [am_stp, am_ld] at hs
    split at hs
    · rename_i v hv
      split at hs
      · rename_i hk
        cases hs
        obtain ⟨w, rfl⟩ := am_vk1 hk
        intro Ls H locs cells slots hl hM hS hc hsl
        exact lv_lload_n hx hb (hd (by simp [am_len])) rfl (am_lv_at hl hv) (k Ls H locs cells slots hl hM hS hc hsl)
      · cases hs
    · cases hs
  | aload_n q =>
    simp only [am_stp, am_ld] at hs
    split at hs
    · rename_i v hv
      split at hs
      · rename_i hk
        cases hs
        obtain ⟨w, rfl⟩ := am_vk2 hk
        intro Ls H locs cells slots hl hM hS hc hsl
        exact lv_aload_n hx hb (hd (by simp [am_len])) rfl (am_lv_at hl hv) (k Ls H locs cells slots hl hM hS hc hsl)
      · cases hs
    · cases hs
  | istore q =>
    simp only [am_stp] at hs
    obtain ⟨v, r0, rfl, hv, hk2, rfl⟩ := am_sv_ok hs
    obtain ⟨w, rfl⟩ := am_vk0 hv
    intro Ls H locs cells slots hl hM hS hc hsl
    simp at hk2
    exact lv_istore hx hb (hd (by simp [am_len])) hl (by omega) rfl (fun Ls1 hl1 => k Ls1 H locs cells slots (by rw [am_st_len]; exact am_lv_st1 hl1) hM hS hc hsl)
  | istore_n q =>
    simp only [am_stp] at hs
    obtain ⟨v, r0, rfl, hv, hk2, rfl⟩ := am_sv_ok hs
    obtain ⟨w, rfl⟩ := am_vk0 hv
    intro Ls H locs cells slots hl hM hS hc hsl
    simp at hk2
    exact lv_istore_n hx hb (hd (by simp [am_len])) rfl hl (by omega) rfl (fun Ls1 hl1 => k Ls1 H locs cells slots (by rw [am_st_len]; exact am_lv_st1 hl1) hM hS hc hsl)
  | lstore q =>
    simp only [am_stp] at hs
    obtain ⟨v, r0, rfl, hv, hk2, rfl⟩ := am_sv_ok hs
    obtain ⟨w, rfl⟩ := am_vk1 hv
    intro Ls H locs cells slots hl hM hS hc hsl
    simp at hk2
    exact lv_lstore hx hb (hd (by simp [am_len])) hl (by omega) rfl (fun Ls1 hl1 => k Ls1 H locs cells slots (by rw [am_st_len]; exact am_lv_st2 rfl hl1) hM hS hc hsl)
  | lstore_n q =>
    simp only [am_stp] at hs
    obtain ⟨v, r0, rfl, hv, hk2, rfl⟩ := am_sv_ok hs
    obtain ⟨w, rfl⟩ := am_vk1 hv
    intro Ls H locs cells slots hl hM hS hc hsl
    simp at hk2
    exact lv_lstore_n hx hb (hd (by simp [am_len])) rfl hl (by omega) rfl (fun Ls1 hl1 => k Ls1 H locs cells slots (by rw [am_st_len]; exact am_lv_st2 rfl hl1) hM hS hc hsl)
  | astore_n q =>
    simp only [am_stp] at hs
    obtain ⟨v, r0, rfl, hv, hk2, rfl⟩ := am_sv_ok hs
    obtain ⟨w, rfl⟩ := am_vk2 hv
    intro Ls H locs cells slots hl hM hS hc hsl
    simp at hk2
    exact lv_astore_n hx hb (hd (by simp [am_len])) rfl hl (by omega) rfl (fun Ls1 hl1 => k Ls1 H locs cells slots (by rw [am_st_len]; exact am_lv_st1 hl1) hM hS hc hsl)
  | iinc q n =>
    simp only [am_stp] at hs
    split at hs
    · rename_i v hv
      cases hs
      intro Ls H locs cells slots hl hM hS hc hsl
      obtain ⟨j, hj⟩ := List.getElem?_of_mem (am_lv_in (G := G) (ls := ls) (q := (q, .int v)) |>.mpr ⟨_, hv, rfl⟩)
      exact lv_iinc hx hb (hd (by simp [am_len])) hl hj rfl (List.getElem?_eq_some_iff.mp hv).1 rfl (fun Ls1 hl1 => k Ls1 H locs cells slots (by rw [am_st_len]; exact am_lv_st1 hl1) hM hS hc hsl)
    · cases hs
  | iadd =>
    simp only [am_stp, am_b2] at hs
    split at hs
    · cases hs
      intro Ls H locs cells slots hl hM hS hc hsl
      exact lv_iadd hx hb (hd (by simp [am_len])) (k Ls H locs cells slots hl hM hS hc hsl)
    · cases hs
  | isub =>
    simp only [am_stp, am_b2] at hs
    split at hs
    · cases hs
      intro Ls H locs cells slots hl hM hS hc hsl
      exact lv_isub hx hb (hd (by simp [am_len])) (k Ls H locs cells slots hl hM hS hc hsl)
    · cases hs
  | imul =>
    simp only [am_stp, am_b2] at hs
    split at hs
    · cases hs
      intro Ls H locs cells slots hl hM hS hc hsl
      exact lv_imul hx hb (hd (by simp [am_len])) (k Ls H locs cells slots hl hM hS hc hsl)
    · cases hs
  | iand =>
    simp only [am_stp, am_b2] at hs
    split at hs
    · cases hs
      intro Ls H locs cells slots hl hM hS hc hsl
      exact lv_iand hx hb (hd (by simp [am_len])) (k Ls H locs cells slots hl hM hS hc hsl)
    · cases hs
  | ior =>
    simp only [am_stp, am_b2] at hs
    split at hs
    · cases hs
      intro Ls H locs cells slots hl hM hS hc hsl
      exact lv_ior hx hb (hd (by simp [am_len])) (k Ls H locs cells slots hl hM hS hc hsl)
    · cases hs
  | ixor =>
    simp only [am_stp, am_b2] at hs
    split at hs
    · cases hs
      intro Ls H locs cells slots hl hM hS hc hsl
      exact lv_ixor hx hb (hd (by simp [am_len])) (k Ls H locs cells slots hl hM hS hc hsl)
    · cases hs
  | ishl =>
    simp only [am_stp, am_b2] at hs
    split at hs
    · cases hs
      intro Ls H locs cells slots hl hM hS hc hsl
      exact lv_ishl hx hb (hd (by simp [am_len])) (k Ls H locs cells slots hl hM hS hc hsl)
    · cases hs
  | ishr =>
    simp only [am_stp, am_b2] at hs
    split at hs
    · cases hs
      intro Ls H locs cells slots hl hM hS hc hsl
      exact lv_ishr hx hb (hd (by simp [am_len])) (k Ls H locs cells slots hl hM hS hc hsl)
    · cases hs
  | iushr =>
    simp only [am_stp, am_b2] at hs
    split at hs
    · cases hs
      intro Ls H locs cells slots hl hM hS hc hsl
      exact lv_iushr hx hb (hd (by simp [am_len])) rfl (k Ls H locs cells slots hl hM hS hc hsl)
    · cases hs
  | idiv =>
    simp only [am_stp, am_bd] at hs
    split at hs
    · split at hs
      · cases hs
      · rename_i hne
        cases hs
        intro Ls H locs cells slots hl hM hS hc hsl
        exact lv_idiv hx hb (hd (by simp [am_len])) hne (k Ls H locs cells slots hl hM hS hc hsl)
    · cases hs
  | irem =>
    simp only [am_stp, am_bd] at hs
    split at hs
    · split at hs
      · cases hs
      · rename_i hne
        cases hs
        intro Ls H locs cells slots hl hM hS hc hsl
        exact lv_irem hx hb (hd (by simp [am_len])) hne (k Ls H locs cells slots hl hM hS hc hsl)
    · cases hs
  | ladd =>
    simp only [am_stp, am_l2] at hs
    split at hs
    · cases hs
      intro Ls H locs cells slots hl hM hS hc hsl
      exact lv_ladd hx hb (hd (by simp [am_len])) (k Ls H locs cells slots hl hM hS hc hsl)
    · cases hs
  | lmul =>
    simp only [am_stp, am_l2] at hs
    split at hs
    · cases hs
      intro Ls H locs cells slots hl hM hS hc hsl
      exact lv_lmul hx hb (hd (by simp [am_len])) (k Ls H locs cells slots hl hM hS hc hsl)
    · cases hs
  | ldiv =>
    simp only [am_stp, am_lq] at hs
    split at hs
    · split at hs
      · cases hs
      · rename_i hne
        cases hs
        intro Ls H locs cells slots hl hM hS hc hsl
        exact lv_ldiv hx hb (hd (by simp [am_len])) hne (k Ls H locs cells slots hl hM hS hc hsl)
    · cases hs
  | lrem =>
    simp only [am_stp, am_lq] at hs
    split at hs
    · split at hs
      · cases hs
      · rename_i hne
        cases hs
        intro Ls H locs cells slots hl hM hS hc hsl
        exact lv_lrem hx hb (hd (by simp [am_len])) hne (k Ls H locs cells slots hl hM hS hc hsl)
    · cases hs
  | lcmp =>
    simp only [am_stp] at hs
    split at hs
    · cases hs
      intro Ls H locs cells slots hl hM hS hc hsl
      exact W.lcmp hx hb (hd (by simp [am_len])) (k Ls H locs cells slots hl hM hS hc hsl)
    · cases hs
  | l2i =>
    simp only [am_stp] at hs
    split at hs
    · cases hs
      intro Ls H locs cells slots hl hM hS hc hsl
      exact lv_l2i hx hb (hd (by simp [am_len])) rfl (k Ls H locs cells slots hl hM hS hc hsl)
    · cases hs
  | ineg =>
    simp only [am_stp, am_un] at hs
    split at hs
    · cases hs
      intro Ls H locs cells slots hl hM hS hc hsl
      exact lv_ineg hx hb (hd (by simp [am_len])) (k Ls H locs cells slots hl hM hS hc hsl)
    · cases hs
  | i2l =>
    simp only [am_stp, am_un] at hs
    split at hs
    · cases hs
      intro Ls H locs cells slots hl hM hS hc hsl
      exact lv_i2l hx hb (hd (by simp [am_len])) rfl (k Ls H locs cells slots hl hM hS hc hsl)
    · cases hs
  | i2b =>
    simp only [am_stp, am_un] at hs
    split at hs
    · cases hs
      intro Ls H locs cells slots hl hM hS hc hsl
      exact lv_i2b hx hb (hd (by simp [am_len])) rfl (k Ls H locs cells slots hl hM hS hc hsl)
    · cases hs
  | i2s =>
    simp only [am_stp, am_un] at hs
    split at hs
    · cases hs
      intro Ls H locs cells slots hl hM hS hc hsl
      exact lv_i2s hx hb (hd (by simp [am_len])) rfl (k Ls H locs cells slots hl hM hS hc hsl)
    · cases hs
  | dup =>
    simp only [am_stp] at hs
    split at hs
    · split at hs
      · rename_i hk
        cases hs
        intro Ls H locs cells slots hl hM hS hc hsl
        exact lv_dup hx hb (hd (by simp [am_len])) (by rw [am_cv_cat]; exact hk) (k Ls H locs cells slots hl hM hS hc hsl)
      · cases hs
    · cases hs
  | pop =>
    simp only [am_stp] at hs
    split at hs
    · split at hs
      · rename_i hk
        cases hs
        intro Ls H locs cells slots hl hM hS hc hsl
        exact lv_pop hx hb (hd (by simp [am_len])) (by rw [am_cv_cat]; exact hk) (k Ls H locs cells slots hl hM hS hc hsl)
      · cases hs
    · cases hs
  | dup2 =>
    simp only [am_stp] at hs
    split at hs
    · split at hs
      · rename_i hk
        cases hs
        intro Ls H locs cells slots hl hM hS hc hsl
        exact lv_dup2_11 hx hb (hd (by simp [am_len])) (by rw [am_cv_cat]; exact hk.1) (by rw [am_cv_cat]; exact hk.2) (k Ls H locs cells slots hl hM hS hc hsl)
      · cases hs
    · cases hs
  | ifCond cnd off =>
    simp only [am_stp] at hs
    have ht : (pc : Int) + off = (x : Int) := of_decide_eq_true hcL
    split at hs
    · cases hs
      have kt : am_cnd cnd _ 0 = true → am_Wa G p l e R s m args below meth c n0 s0 Q x ls _ h := fun q => by dsimp only at k; rw [if_pos q] at k; exact k
      have kf : ¬ am_cnd cnd _ 0 = true → am_Wa G p l e R s m args below meth c n0 s0 Q (pc + 3) ls _ h := fun q => by dsimp only at k; rw [if_neg q] at k; exact k
      intro Ls H locs cells slots hl hM hS hc hsl
      cases cnd with
      | eq => exact lv_if_eq hx hb (hd (by simp [am_len])) ht (fun q => kt (by simpa [am_cnd] using q) Ls H locs cells slots hl hM hS hc hsl) (fun q => kf (by simpa [am_cnd] using q) Ls H locs cells slots hl hM hS hc hsl)
      | ne => exact lv_if_ne hx hb (hd (by simp [am_len])) ht (fun q => kt (by simpa [am_cnd] using q) Ls H locs cells slots hl hM hS hc hsl) (fun q => kf (by simpa [am_cnd] using q) Ls H locs cells slots hl hM hS hc hsl)
      | lt => exact lv_if_lt hx hb (hd (by simp [am_len])) ht (fun q => kt (by simpa [am_cnd] using q) Ls H locs cells slots hl hM hS hc hsl) (fun q => kf (by simpa [am_cnd] using q) Ls H locs cells slots hl hM hS hc hsl)
      | ge => exact lv_if_ge hx hb (hd (by simp [am_len])) ht (fun q => kt (by simpa [am_cnd] using q) Ls H locs cells slots hl hM hS hc hsl) (fun q => kf (by simpa [am_cnd] using q) Ls H locs cells slots hl hM hS hc hsl)
      | gt => exact lv_if_gt hx hb (hd (by simp [am_len])) ht (fun q => kt (by simpa [am_cnd] using q) Ls H locs cells slots hl hM hS hc hsl) (fun q => kf (by simpa [am_cnd] using q) Ls H locs cells slots hl hM hS hc hsl)
      | le => exact lv_if_le hx hb (hd (by simp [am_len])) ht (fun q => kt (by simpa [am_cnd] using q) Ls H locs cells slots hl hM hS hc hsl) (fun q => kf (by simpa [am_cnd] using q) Ls H locs cells slots hl hM hS hc hsl)
    · cases hs
  | if_icmp cnd off =>
    simp only [am_stp] at hs
    have ht : (pc : Int) + off = (x : Int) := of_decide_eq_true hcL
    split at hs
    · cases hs
      have kt : am_cnd cnd _ _ = true → am_Wa G p l e R s m args below meth c n0 s0 Q x ls _ h := fun q => by dsimp only at k; rw [if_pos q] at k; exact k
      have kf : ¬ am_cnd cnd _ _ = true → am_Wa G p l e R s m args below meth c n0 s0 Q (pc + 3) ls _ h := fun q => by dsimp only at k; rw [if_neg q] at k; exact k
      intro Ls H locs cells slots hl hM hS hc hsl
      cases cnd with
      | eq => exact lv_icmp_eq hx hb (hd (by simp [am_len])) ht (fun q => kt (by simpa [am_cnd] using q) Ls H locs cells slots hl hM hS hc hsl) (fun q => kf (by simpa [am_cnd] using q) Ls H locs cells slots hl hM hS hc hsl)
      | ne => exact lv_icmp_ne hx hb (hd (by simp [am_len])) ht (fun q => kt (by simpa [am_cnd] using q) Ls H locs cells slots hl hM hS hc hsl) (fun q => kf (by simpa [am_cnd] using q) Ls H locs cells slots hl hM hS hc hsl)
      | lt => exact lv_icmp_lt hx hb (hd (by simp [am_len])) ht (fun q => kt (by simpa [am_cnd] using q) Ls H locs cells slots hl hM hS hc hsl) (fun q => kf (by simpa [am_cnd] using q) Ls H locs cells slots hl hM hS hc hsl)
      | ge => exact lv_icmp_ge hx hb (hd (by simp [am_len])) ht (fun q => kt (by simpa [am_cnd] using q) Ls H locs cells slots hl hM hS hc hsl) (fun q => kf (by simpa [am_cnd] using q) Ls H locs cells slots hl hM hS hc hsl)
      | gt => exact lv_icmp_gt hx hb (hd (by simp [am_len])) ht (fun q => kt (by simpa [am_cnd] using q) Ls H locs cells slots hl hM hS hc hsl) (fun q => kf (by simpa [am_cnd] using q) Ls H locs cells slots hl hM hS hc hsl)
      | le => exact lv_icmp_le hx hb (hd (by simp [am_len])) ht (fun q => kt (by simpa [am_cnd] using q) Ls H locs cells slots hl hM hS hc hsl) (fun q => kf (by simpa [am_cnd] using q) Ls H locs cells slots hl hM hS hc hsl)
    · cases hs
  | goto off =>
    simp only [am_stp] at hs
    have ht : (pc : Int) + off = (x : Int) := of_decide_eq_true hcL
    cases hs
    intro Ls H locs cells slots hl hM hS hc hsl
    exact lv_goto hx hb (hd (by simp [am_len])) ht (k Ls H locs cells slots hl hM hS hc hsl)
  | tableswitch dflt lo hi offs =>
    simp only [am_stp] at hs
    obtain ⟨n, hn⟩ := hdn
    split at hs
    · split at hs
      · rename_i ho
        obtain ⟨t, ht, rfl⟩ := am_jmp_ok hs
        intro Ls H locs cells slots hl hM hS hc hsl
        exact lv_tableOut hx hb hn ho ht (k Ls H locs cells slots hl hM hS hc hsl)
      · rename_i ho
        split at hs
        · rename_i off hoff
          obtain ⟨t, ht, rfl⟩ := am_jmp_ok hs
          intro Ls H locs cells slots hl hM hS hc hsl
          exact lv_tableIn hx hb hn (fun q => ho (Or.inl q)) (fun q => ho (Or.inr q)) hoff ht (k Ls H locs cells slots hl hM hS hc hsl)
        · cases hs
    · cases hs
  | lookupswitch dflt ps =>
    simp only [am_stp] at hs
    obtain ⟨n, hn⟩ := hdn
    split at hs
    · split at hs
      · rename_i ho
        obtain ⟨t, ht, rfl⟩ := am_jmp_ok hs
        intro Ls H locs cells slots hl hM hS hc hsl
        exact lv_lookup hx hb hn ho rfl ht (k Ls H locs cells slots hl hM hS hc hsl)
      · cases hs
    · cases hs
  | getfield q =>
    simp only [am_stp] at hs
    exact am_i_get X0 (hd (by simp [am_len])) hcL hs k
  | putfield q =>
    simp only [am_stp] at hs
    exact am_i_put X0 (hd (by simp [am_len])) hcL hs k
  | getstatic q =>
    simp only [am_stp] at hs
    exact am_i_gets X0 (hd (by simp [am_len])) hcL hs k
  | iaload =>
    simp only [am_stp] at hs
    exact am_i_ald 0 (Or.inl rfl) X0 (hd (by simp [am_len])) hs k
  | baload =>
    simp only [am_stp] at hs
    exact am_i_ald 1 (Or.inr rfl) X0 (hd (by simp [am_len])) hs k
  | iastore =>
    simp only [am_stp] at hs
    exact am_i_ast 0 (Or.inl rfl) X0 (hd (by simp [am_len])) hs k
  | bastore =>
    simp only [am_stp] at hs
    exact am_i_ast 1 (Or.inr rfl) X0 (hd (by simp [am_len])) hs k
  | aaload =>
    simp only [am_stp] at hs
    exact am_i_qld X0 (hd (by simp [am_len])) hs k
  | aastore =>
    simp only [am_stp] at hs
    exact am_i_qst X0 (hd (by simp [am_len])) hs k
  | arraylength =>
    simp only [am_stp] at hs
    exact am_i_len X0 (hd (by simp [am_len])) hs k
  | new q =>
    simp only [am_stp] at hs
    exact am_i_new X0 (hd (by simp [am_len])) hcL hs hrc hrs k
  | newarray a =>
    cases a with
    | int => exact am_i_nwa 0 .int (Or.inl ⟨rfl, rfl⟩) X0 harr (hd (by simp [am_len])) hs hrc hrs k
    | boolean => exact am_i_nwa 1 .boolean (Or.inr ⟨rfl, rfl⟩) X0 harr (hd (by simp [am_len])) hs hrc hrs k
    | _ => simp [am_stp] at hs
  | anewarray q =>
    simp only [am_stp] at hs
    exact am_i_nwq X0 (hd (by simp [am_len])) hcL hs hrc hrs k
  | multianewarray q dim =>
    by_cases h2 : dim = 2
    · subst h2
      exact hg X0 harr (hd (by simp [am_len])) hcL hs hrc hrs k
    · exfalso
      unfold am_stp at hs
      split at hs <;> first | contradiction | (simp_all; done) | cases hs
  | invokestatic q =>
    simp only [am_stp] at hs
    split at hs
    · rename_i hk
      obtain ⟨rfl, h1⟩ := hk
      exact am_i_cpy (d := d) X0 (hd (by simp [am_len])) hcL ⟨hts _ am_g1, hts _ am_g2, hts _ am_g3⟩ hlen hs hfr hlo h1 k
    · cases hs
  | invokespecial q =>
    simp only [am_stp] at hs
    split at hs
    · split at hs
      · rename_i r0 hk
        obtain ⟨rfl, h1, h2⟩ := hk
        cases hs
        intro Ls H locs cells slots hl hM hS hc hsl
        refine W.objInit hx hb hown (hts _ (am_qz_tb hcL)) (hts _ am_g6) (hts _ am_g7) rfl (by rw [hml, ← hlen]; exact hl.1) rfl (hd (by simp [am_len])) (by omega) ?_ (k Ls H locs cells slots hl hM hS hc hsl)
        show 2 * 0 + _ + 12 ≤ _
        rw [am_cats_map]
        omega
      · cases hs
    · cases hs
  | _ => simp [am_stp] at hs
end AMS
