/-! The abstract machine's states and the JVM's: what matches what. -/
abbrev am_G : Type := va_G × (Nat → Nat) × Nat × (Nat → ClassId) × (Nat → Nat × (Nat → Int32))
def am_ad (G : am_G) (k : Nat) : Nat := if k < 5 then G.2.1 k else G.2.2.1 + (k - 5)
def am_cv (G : am_G) (v : Value) : Value := match v with
  | .ref a => .ref (am_ad G a)
  | w => w
def am_ce (G : am_G) (c : am_C) : va_E := match c with
  | .inl (ci, fs) => .inr (ci, fs.map (am_cv G))
  | .inr (.inl (tk, n, f)) => .inl (G.2.2.2.1 tk, n, .inl f)
  | .inr (.inr (tk, n, f)) => .inl (G.2.2.2.1 (2 + tk), n, .inr (.inr (.inr (.inr (fun i => (f i).map (am_ad G))))))
def am_w (G : am_G) (h : am_H) : va_W := (List.range h.2.1).map fun k => (G.2.2.1 + k, am_ce G (h.1 (k + 5)))
def am_A (G : am_G) : Nat → Prop := fun q => G.2.2.1 ≤ q
def am_tys (G : am_G) : List (ClassId × FieldType) := [(G.2.2.2.1 0, .int), (G.2.2.2.1 1, .boolean), (G.2.2.2.1 2, .object "WheelRide$Wheel"), (G.2.2.2.1 3, .array .int)]
def am_TB : List Jvm.Cond := lw_tbl.filter goodWord
def am_F (G : am_G) (U : State) (H : Heap) : Prop := (∀ k, k < 5 → va_T .int (G.2.1 k) (G.2.2.2.2 k).1 (fun j => .int ((G.2.2.2.2 k).2 j)) (am_A G) U H) ∧ ∀ k, 1 ≤ k → k ≤ 4 → va_Z (am_sf k).1 (am_sf k).2 "[I" (.ref (G.2.1 k)) (am_A G) U H
def am_isN (w : Jvm.Cond) : Bool := match w with
  | .fieldLinkNest _ _ _ _ _ _ => true
  | .methodLinkNest _ _ _ _ => true
  | _ => false
def am_N (U : State) : Prop := (∀ z q, am_qz z = some q → am_isN q = true → va_Nw q U) ∧ va_AO "WheelRide$Wheel" U ∧ (Jvm.Cond.arrayOver (.array .int)).before #[] U = true
def am_Mm (G : am_G) (h : am_H) (H : Heap) : Prop := va_P G.1 am_cl (am_w G h) H ∧ ∀ k, k < 5 → h.1 k = .inr (.inl (0, (G.2.2.2.2 k).1, (G.2.2.2.2 k).2))
theorem am_cv_cat (G : am_G) (v : Value) : (am_cv G v).category = v.category := by cases v <;> rfl
theorem am_mut_iff {h : am_H} {a : Nat} : am_mut h a = true ↔ 5 ≤ a ∧ a < h.2.1 + 5 := by simp [am_mut]
theorem am_ad_m {G : am_G} {a : Nat} (h : 5 ≤ a) : am_ad G a = G.2.2.1 + (a - 5) := by unfold am_ad; rw [if_neg (by omega)]
theorem am_ad_s {G : am_G} {a : Nat} (h : a < 5) : am_ad G a = G.2.1 a := by unfold am_ad; rw [if_pos h]
theorem am_w_len (G : am_G) (h : am_H) : (am_w G h).length = h.2.1 := by simp [am_w]
theorem am_w_k (G : am_G) (h : am_H) {k : Nat} (hk : k < h.2.1) : (am_w G h)[k]? = some (G.2.2.1 + k, am_ce G (h.1 (k + 5))) := by
  unfold am_w
  rw [List.getElem?_map, List.getElem?_range hk]
  rfl
theorem am_w_some {G : am_G} {h : am_H} {k : Nat} {q : Nat × va_E} (hq : (am_w G h)[k]? = some q) : k < h.2.1 ∧ q = (G.2.2.1 + k, am_ce G (h.1 (k + 5))) := by
  have hk : k < h.2.1 := by have := (List.getElem?_eq_some_iff.mp hq).1; rwa [am_w_len] at this
  rw [am_w_k G h hk] at hq
  exact ⟨hk, (Option.some.inj hq).symm⟩
theorem am_w_at (G : am_G) {h : am_H} {a : Nat} (hm : am_mut h a = true) : (am_w G h)[a - 5]? = some (am_ad G a, am_ce G (h.1 a)) := by
  obtain ⟨h1, h2⟩ := am_mut_iff.mp hm
  rw [am_w_k G h (by omega), am_ad_m h1, show a - 5 + 5 = a by omega]
theorem am_D (G : am_G) (h : am_H) : va_D (am_A G) (am_w G h) := by
  refine ⟨fun i j p q hi hj e => ?_, fun k q hk => ?_⟩
  · obtain ⟨-, rfl⟩ := am_w_some hi
    obtain ⟨-, rfl⟩ := am_w_some hj
    have e1 : G.2.2.1 + i = G.2.2.1 + j := e
    omega
  · obtain ⟨-, rfl⟩ := am_w_some hk
    exact Nat.le_add_right _ _
theorem am_w_set (G : am_G) {h : am_H} {a : Nat} (hm : am_mut h a = true) (c : am_C) : (am_w G h).set (a - 5) (am_ad G a, am_ce G c) = am_w G (am_set h a c) := by
  obtain ⟨h1, h2⟩ := am_mut_iff.mp hm
  apply List.ext_getElem?
  intro k
  rw [List.getElem?_set]
  by_cases hk : k < h.2.1
  · rw [am_w_k G (am_set h a c) (k := k) hk, am_w_len, am_w_k G h hk]
    by_cases e : a - 5 = k
    · rw [if_pos e, if_pos (by omega), am_ad_m h1, ← e]
      simp [am_set, show a - 5 + 5 = a by omega]
    · rw [if_neg e]
      simp [am_set, show ¬ k + 5 = a by omega]
  · have e1 : (am_w G (am_set h a c))[k]? = none := List.getElem?_eq_none (by rw [am_w_len]; exact Nat.le_of_not_lt hk)
    have e2 : (am_w G h)[k]? = none := List.getElem?_eq_none (by rw [am_w_len]; exact Nat.le_of_not_lt hk)
    rw [e1, e2, am_w_len]
    rw [if_neg (by omega)]
theorem am_w_push (G : am_G) (h : am_H) (c : am_C) (n : Nat) : am_w G h ++ [(G.2.2.1 + h.2.1, am_ce G c)] = am_w G (am_push h c n) := by
  show _ = (List.range (h.2.1 + 1)).map _
  rw [List.range_succ, List.map_append]
  congr 1
  · unfold am_w
    apply List.map_congr_left
    intro k hk
    have := List.mem_range.mp hk
    simp [am_push, show ¬ k = h.2.1 by omega]
  · simp [am_push]
/-- the locals -/
def am_lv (G : am_G) (ls : am_L) : List (Nat × Value) := (List.range ls.length).filterMap fun j => match ls[j]? with
  | some (some v) => some (j, am_cv G v)
  | _ => none
theorem am_lv_in {G : am_G} {ls : am_L} {q : Nat × Value} : q ∈ am_lv G ls ↔ ∃ v, ls[q.1]? = some (some v) ∧ q.2 = am_cv G v := by
  unfold am_lv
  rw [List.mem_filterMap]
  constructor
  · rintro ⟨j, hj, e⟩
    split at e
    · rename_i v hv
      cases e
      exact ⟨v, hv, rfl⟩
    · cases e
  · rintro ⟨v, h1, h2⟩
    refine ⟨q.1, List.mem_range.mpr (List.getElem?_eq_some_iff.mp h1).1, ?_⟩
    rw [h1]
    show some (q.1, am_cv G v) = some q
    rw [← h2]
theorem am_lv_at {G : am_G} {ls : am_L} {Ls : Array Slot} {n k : Nat} {v : Value} (h : lv_has Ls n (am_lv G ls)) (hk : ls[k]? = some (some v)) : Ls[k]? = some (.val (am_cv G v)) := h.2.2 (k, am_cv G v) (am_lv_in.mpr ⟨v, hk, rfl⟩)
theorem am_st_len (ls : am_L) (i : Nat) (v : Value) : (am_st ls i v).length = ls.length := by simp [am_st]
theorem am_st_some {ls : am_L} {i j : Nat} {v w : Value} (h : (am_st ls i v)[j]? = some (some w)) : (j = i ∧ w = v) ∨ (j ≠ i ∧ ls[j]? = some (some w) ∧ ¬ (j + 1 = i ∧ w.category = 2) ∧ ¬ (j = i + 1 ∧ v.category = 2)) := by
  have hj : j < ls.length := by have := (List.getElem?_eq_some_iff.mp h).1; rwa [am_st_len] at this
  unfold am_st at h
  rw [List.getElem?_map, List.getElem?_range hj] at h
  simp only [Option.map_some, Option.some.injEq] at h
  by_cases e : j = i
  · rw [if_pos e] at h
    exact Or.inl ⟨e, (Option.some.inj h).symm⟩
  · rw [if_neg e] at h
    by_cases e2 : j = i + 1 ∧ v.category = 2
    · rw [if_pos e2] at h
      cases h
    · rw [if_neg e2] at h
      by_cases e3 : j + 1 = i
      · rw [if_pos e3] at h
        split at h
        · rename_i w' hw'
          split at h
          · cases h
          · rename_i hn
            cases h
            exact Or.inr ⟨e, hw', fun q => hn q.2, e2⟩
        · cases h
      · rw [if_neg e3] at h
        refine Or.inr ⟨e, ?_, fun q => e3 q.1, e2⟩
        rw [List.getD_eq_getElem?_getD, List.getElem?_eq_getElem hj] at h
        rw [List.getElem?_eq_getElem hj]
        exact congrArg some h
theorem am_lv_st1 {G : am_G} {ls : am_L} {Ls : Array Slot} {n i : Nat} {v : Value} (h : lv_has Ls n ((i, am_cv G v) :: (am_lv G ls).filter (fun q => !(q.1 == i) && !(q.1 + 1 == i && q.2.category == 2)))) : lv_has Ls n (am_lv G (am_st ls i v)) := by
  refine ⟨h.1, h.2.1, fun q hq => h.2.2 q ?_⟩
  obtain ⟨w, h1, h2⟩ := am_lv_in.mp hq
  obtain ⟨a, b⟩ := q
  rcases am_st_some h1 with ⟨e1, e2⟩ | ⟨e1, e2, e3, e4⟩
  · dsimp only at e1 h2
    subst e1
    subst e2
    rw [h2]
    exact List.mem_cons_self
  · refine List.mem_cons_of_mem _ (List.mem_filter.mpr ⟨am_lv_in.mpr ⟨w, e2, h2⟩, ?_⟩)
    dsimp only at e1 e3 h2 ⊢
    rw [h2, am_cv_cat]
    simp only [Bool.and_eq_true, Bool.not_eq_true', beq_eq_false_iff_ne, Bool.and_eq_false_imp, beq_iff_eq]
    exact ⟨e1, fun q => by simpa using fun z => e3 ⟨q, z⟩⟩
theorem am_lv_st2 {G : am_G} {ls : am_L} {Ls : Array Slot} {n i : Nat} {v : Value} (hv : v.category = 2) (h : lv_has Ls n ((i, am_cv G v) :: (am_lv G ls).filter (fun q => !(q.1 == i) && (!(q.1 == i + 1) && !(q.1 + 1 == i && q.2.category == 2))))) : lv_has Ls n (am_lv G (am_st ls i v)) := by
  refine ⟨h.1, h.2.1, fun q hq => h.2.2 q ?_⟩
  obtain ⟨w, h1, h2⟩ := am_lv_in.mp hq
  obtain ⟨a, b⟩ := q
  rcases am_st_some h1 with ⟨e1, e2⟩ | ⟨e1, e2, e3, e4⟩
  · dsimp only at e1 h2
    subst e1
    subst e2
    rw [h2]
    exact List.mem_cons_self
  · refine List.mem_cons_of_mem _ (List.mem_filter.mpr ⟨am_lv_in.mpr ⟨w, e2, h2⟩, ?_⟩)
    dsimp only at e1 e3 e4 h2 ⊢
    rw [h2, am_cv_cat]
    simp only [Bool.and_eq_true, Bool.not_eq_true', beq_eq_false_iff_ne, Bool.and_eq_false_imp, beq_iff_eq]
    exact ⟨e1, fun q => e4 ⟨q, hv⟩, fun q => by simpa using fun z => e3 ⟨q, z⟩⟩
theorem am_QZ {z : Nat} {w : Jvm.Cond} (h : am_qz z = some w) : w ∈ lw_tbl := by
  unfold am_qz at h
  rw [← am_fl]
  by_cases hk : z / 40 < am_tb.length
  · rw [List.getD_eq_getElem?_getD, List.getElem?_eq_getElem hk] at h
    exact List.mem_flatten.mpr ⟨am_tb[z / 40], List.getElem_mem hk, List.mem_of_getElem? h⟩
  · rw [List.getD_eq_getElem?_getD, List.getElem?_eq_none (Nat.le_of_not_lt hk)] at h
    cases h
/-- a word that a check has found is a word of the tables -/
theorem am_qz_tb {z : Nat} {w : Jvm.Cond} (h : am_at z w = true) : w ∈ am_TB := by
  unfold am_at at h
  split at h
  · rename_i q hq
    simp only [Bool.and_eq_true, decide_eq_true_eq] at h
    obtain ⟨rfl, hg⟩ := h
    exact List.mem_filter.mpr ⟨am_QZ hq, hg⟩
  · cases h
