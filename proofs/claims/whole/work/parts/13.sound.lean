/-! The abstract machine is sound: what a run of it answers, the JVM answers. -/
def am_ws (y : Nat) : List Jvm.Cond := Jvm.Cond.code (am_M y).1 (am_M y).2.1 (am_M y).2.2.1 (am_M y).2.2.2.1 :: am_TB
def am_Pc (G : am_G) (vs : List Value) (h : am_H) : Array Value → State → Prop := fun a U => a = (vs.map (am_cv G)).toArray ∧ am_Mm G h U.heap ∧ U.heap.size = G.2.2.1 + h.2.1 ∧ va_K G.1 am_cl (am_tys G) U ∧ am_F G U U.heap ∧ am_N U
def am_Qc (G : am_G) (r : Option Value) (h' : am_H) : Array Value → State → Outcome → State → Prop := fun _ st o t => o = .returned (r.map (am_cv G)) ∧ am_Mm G h' t.heap ∧ va_F (am_A G) st t
def am_rm (d mc ms : Nat) : Room := { frames := d, cells := mc, slots := ms, locals := 48 * d }
def am_Met (G : am_G) (l : Launch) (d y : Nat) (vs : List Value) (h : am_H) (r : Option Value) (h' : am_H) : Prop := Met l (am_M y).1 (am_ws y) (am_rm d (h'.2.1 - h.2.1) (h'.2.2 - h.2.2)) (am_Pc G vs h) (am_Qc G r h') (h'.2.1 - h.2.1) (h'.2.2 - h.2.2) (am_A G)
theorem am_AOA_moved {u U : State} (hvm : u.vm.Alike U.vm) (h : (Jvm.Cond.arrayOver (.array .int)).before #[] u = true) : (Jvm.Cond.arrayOver (.array .int)).before #[] U = true := by
  simp only [Cond.before, Cond.holds, Cond.value, beq_iff_eq] at h ⊢
  cases hc : u.vm.findClass (FieldType.array .int).toString with
  | none => simp [hc] at h
  | some comp =>
    simp only [hc, Option.bind_some, Option.bind_eq_some_iff, Option.map_eq_some_iff] at h
    obtain ⟨cc, hi, k, hk, hb⟩ := h
    obtain ⟨k', hk', he⟩ := hvm.2.2 _ _ hk
    have f1 : U.vm.findClass (FieldType.array .int).toString = some comp := by rw [hvm.findClass]; exact hc
    have hi' : (U.vm.classes.findIdx? fun (x : Class) => match x.kind with | .array component _ => component == comp | _ => false) = some cc := by
      have e0 := va_idx_bare U.vm comp
      have e1 := va_idx_bare u.vm comp
      have eb : U.vm.bare = u.vm.bare := by first | exact hvm.bare_eq | exact hvm.bare_eq.symm
      rw [eb] at e0
      exact e0.symm.trans (e1.trans hi)
    rw [f1]
    simp only [Option.bind_some, Option.bind_eq_some_iff, Option.map_eq_some_iff]
    refine ⟨cc, hi', k', hk', ?_⟩
    have hkind : k'.kind = k.kind := by rw [he]
    rw [hkind]
    rw [hvm.findClass]
    exact hb
theorem am_isN_tab {w : Jvm.Cond} (h : am_isN w = true) : w.onTables = true := by cases w <;> simp [am_isN] at h <;> rfl
theorem am_N_warm {s U : State} (hW : s.WarmedH U.vm) (hN : am_N s) : am_N U := by
  refine ⟨fun z q hq hn => ?_, va_AO.moved hW.alike hN.2.1, am_AOA_moved hW.alike hN.2.2⟩
  have h0 := hN.1 z q hq hn
  cases q <;> simp [am_isN] at hn
  · exact va_Nw.warmM hW h0
  · exact va_Nw.warmF hW h0
theorem am_F_warm {G : am_G} {s U : State} {H : Heap} {locs : List Loc} (hW : s.WarmedH U.vm) (hS : va_S (am_A G) s.heap H locs) (hF : am_F G s s.heap) : am_F G U H := ⟨fun k hk => ((hF.1 k hk).moved hW.alike).kept hS.2.1, fun k h1 h2 => ((hF.2 k h1 h2).moved hW.alike).kept hS.2.1⟩
theorem am_blind (G : am_G) (vs : List Value) (h : am_H) : FrameBlind (am_Pc G vs h) := by
  intro a U g mk q
  obtain ⟨q1, q2, q3, q4, q5, q6⟩ := q
  refine ⟨q1, q2, q3, va_K.moved (u := U) (U := U.calling g mk a) (Vm.Alike.refl U.vm) q4, ⟨fun k hk => (q5.1 k hk).moved (Vm.Alike.refl U.vm), fun k h1 h2 => (q5.2 k h1 h2).moved (Vm.Alike.refl U.vm)⟩, fun z w hz hn => va_Nw.same (u := U) (am_isN_tab hn) rfl (q6.1 z w hz hn), va_AO.moved (Vm.Alike.refl U.vm) q6.2.1, am_AOA_moved (Vm.Alike.refl U.vm) q6.2.2⟩
/-- the locals at the start -/
theorem am_sl_len (G : am_G) : ∀ vs : List Value, (lg_sl (vs.map (am_cv G))).length = (am_sl vs).length
  | [] => rfl
  | v :: r => by
    have ih := am_sl_len G r
    simp only [lg_sl, List.map_cons, List.flatMap_cons, am_sl, am_cv_cat] at ih ⊢
    by_cases h : v.category = 2
    · simp [h] at ih ⊢; omega
    · simp [h] at ih ⊢; omega
theorem am_sl_in (G : am_G) : ∀ (vs : List Value) (b : Nat) (j : Nat) (v : Value), (am_sl vs)[j]? = some (some v) → (b + j, am_cv G v) ∈ lv_args b (vs.map (am_cv G))
  | [], b, j, v, h => by simp [am_sl] at h
  | w :: r, b, j, v, h => by
    rw [List.map_cons]
    simp only [lv_args, am_cv_cat]
    unfold am_sl at h
    by_cases hc : w.category = 2
    · rw [if_pos hc] at h ⊢
      match j, h with
      | 0, h => cases h; exact List.mem_cons_self
      | 1, h => cases h
      | j + 2, h =>
        refine List.mem_cons_of_mem _ ?_
        have := am_sl_in G r (b + 2) j v h
        rw [show b + (j + 2) = b + 2 + j by omega]
        exact this
    · rw [if_neg hc] at h ⊢
      match j, h with
      | 0, h => cases h; exact List.mem_cons_self
      | j + 1, h =>
        refine List.mem_cons_of_mem _ ?_
        have := am_sl_in G r (b + 1) j v h
        rw [show b + (j + 1) = b + 1 + j by omega]
        exact this
theorem am_ent_len {vs : List Value} {n : Nat} (h : (am_sl vs).length ≤ n) : (am_ent vs n).length = n := by
  unfold am_ent
  rw [List.length_append, List.length_replicate]
  omega
theorem am_entry {G : am_G} {vs : List Value} {n : Nat} {Ls : Array Slot} (h : lv_has Ls n (lv_args 0 (vs.map (am_cv G)))) : lv_has Ls n (am_lv G (am_ent vs n)) := by
  refine ⟨h.1, h.2.1, fun q hq => h.2.2 q ?_⟩
  obtain ⟨v, h1, h2⟩ := am_lv_in.mp hq
  unfold am_ent at h1
  by_cases hj : q.1 < (am_sl vs).length
  · rw [List.getElem?_append_left hj] at h1
    have := am_sl_in G vs 0 q.1 v h1
    rw [Nat.zero_add, ← h2] at this
    exact this
  · rw [List.getElem?_append_right (by omega)] at h1
    rw [List.getElem?_replicate] at h1
    split at h1 <;> cases h1
section AMV
variable {G : am_G} {p : Program} {l : Launch} {e : Env} {R : Room} {s : State} {m : MethodId} {args : Array Value} {below : List Frame} {meth : Method} {c : Code} {n0 s0 y : Nat} {Q : State → Prop}
theorem am_callA {H : Heap} {locs : List Loc} {cells slots mc ms pc : Nat} {Ls : Array Slot} {st0 rest : List Value} {Qa : State → Outcome → State → Prop} (hr : va_Run p l e R s m args below meth c H locs cells slots mc ms (F0 m pc Ls st0) rest Qa (am_A G)) (hL : ∀ q ∈ locs, am_A G q.base)
    (kk : ∀ (v : Option Value) (st₀ t : State) (locs1 : List Loc), st₀.heap = H → Qa st₀ (.returned v) t → (∀ q ∈ locs1, am_A G q.base) → W p l e R s m args below meth c t.heap locs1 (cells + mc) (slots + ms) Q (F0 m (pc + 3) Ls (v.toList ++ rest))) : W p l e R s m args below meth c H locs cells slots Q (F0 m pc Ls st0) := by
  intro T hT X
  obtain ⟨v, st₀, t, T', L, h0, X', hL1, e1, e2, hq, st⟩ := hr T hT X
  obtain ⟨t2, a1, b1⟩ := kk v st₀ t (locs ++ L) h0 hq (fun q hq => by
    rcases List.mem_append.mp hq with h | h
    · exact hL q h
    · exact hL1 q h) T' e1 X'
  exact ⟨t2, st t2 a1, b1⟩
theorem am_good (y : Nat) (hy : y < 239) : GoodIn am_TB (am_ws y) := by
  intro w hw
  have hc := am_oy hy
  unfold am_chY at hc
  simp only [Bool.and_eq_true] at hc
  have gd : ∀ w ∈ am_TB, w ∈ am_TB ∧ ((w.onTables && w.keeps) = true ∨ ∃ ty, w = .arrayClass ty) := fun w h => ⟨h, good_of_word (List.mem_filter.mp h).2⟩
  rcases List.mem_cons.mp hw with h | h
  · rw [h]
    exact gd _ (am_qz_tb hc.1.1.1.1)
  · exact gd _ h
end AMV
