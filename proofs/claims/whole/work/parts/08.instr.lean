/-! The instructions that touch cells. -/
theorem am_uw {ws : List Jvm.Cond} {ps : List Nat} (h : (ws = ps.filterMap (fun z => lw_tbl[z]?)) ∧ ws.all goodWord = true) : ∀ w ∈ ws, w ∈ am_TB := by
  intro w hw
  have h1 := List.all_eq_true.mp h.2 w hw
  rw [h.1] at hw
  obtain ⟨i, -, hi⟩ := List.mem_filterMap.mp hw
  exact List.mem_filter.mpr ⟨List.mem_of_getElem? hi, h1⟩
theorem am_tbm {z : Nat} {w : Jvm.Cond} (h : lw_tbl[z]? = some w) (hg : goodWord w = true) : w ∈ am_TB := List.mem_filter.mpr ⟨List.mem_of_getElem? h, hg⟩
def am_cfP (ci : Nat) (r : vw_C) : Prop := (∀ w ∈ u_ws r.1 r.2.1 r.2.2, w ∈ am_TB) ∧ (∀ k, k < r.2.2 → parseFieldDescriptor (r.2.1 k).2.2.1 = some (am_ty ci k)) ∧ (∀ a, a < r.2.2 → ∀ b, b < r.2.2 → a ≠ b → (r.2.1 a).2.1 ≠ (r.2.1 b).2.1) ∧ Jvm.Cond.instantiable r.1 r.2.2 ∈ am_TB ∧ Jvm.Cond.initialized r.1 ∈ am_TB
theorem am_cf (ci : Nat) (r : vw_C) (h : am_cl[ci]? = some r) : am_cfP ci r := by
  match ci, h with
  | 0, h => cases h; exact ⟨am_uw am_u0, am_k0, am_n0, am_tbm am_v0.1 (by decide +kernel), am_tbm am_v0.2 (by decide +kernel)⟩
  | 1, h => cases h; exact ⟨am_uw am_u1, am_k1, am_n1, am_tbm am_v1.1 (by decide +kernel), am_tbm am_v1.2 (by decide +kernel)⟩
  | 2, h => cases h; exact ⟨am_uw am_u2, am_k2, am_n2, am_tbm am_v2.1 (by decide +kernel), am_tbm am_v2.2 (by decide +kernel)⟩
  | 3, h => cases h; exact ⟨am_uw am_u3, am_k3, am_n3, am_tbm am_v3.1 (by decide +kernel), am_tbm am_v3.2 (by decide +kernel)⟩
  | 4, h => cases h; exact ⟨am_uw am_u4, am_k4, am_n4, am_tbm am_v4.1 (by decide +kernel), am_tbm am_v4.2 (by decide +kernel)⟩
  | 5, h => cases h; exact ⟨am_uw am_u5, am_k5, am_n5, am_tbm am_v5.1 (by decide +kernel), am_tbm am_v5.2 (by decide +kernel)⟩
  | 6, h => cases h; exact ⟨am_uw am_u6, am_k6, am_n6, am_tbm am_v6.1 (by decide +kernel), am_tbm am_v6.2 (by decide +kernel)⟩
  | 7, h => cases h; exact ⟨am_uw am_u7, am_k7, am_n7, am_tbm am_v7.1 (by decide +kernel), am_tbm am_v7.2 (by decide +kernel)⟩
  | 8, h => cases h; exact ⟨am_uw am_u8, am_k8, am_n8, am_tbm am_v8.1 (by decide +kernel), am_tbm am_v8.2 (by decide +kernel)⟩
  | 9, h => cases h; exact ⟨am_uw am_u9, am_k9, am_n9, am_tbm am_v9.1 (by decide +kernel), am_tbm am_v9.2 (by decide +kernel)⟩
  | 10, h => cases h; exact ⟨am_uw am_u10, am_k10, am_n10, am_tbm am_v10.1 (by decide +kernel), am_tbm am_v10.2 (by decide +kernel)⟩
  | 11, h => cases h; exact ⟨am_uw am_u11, am_k11, am_n11, am_tbm am_v11.1 (by decide +kernel), am_tbm am_v11.2 (by decide +kernel)⟩
  | k + 12, h => simp at h
section AMI
variable {G : am_G} {p : Program} {l : Launch} {e : Env} {R : Room} {s : State} {m : MethodId} {args : Array Value} {below : List Frame} {meth : Method} {c : Code} {n0 s0 y : Nat} {Q : State → Prop}
theorem am_fdk {x : Nat} {rc : vw_C} (h : am_cl[x / 100]? = some rc) : am_fd x = rc.2.1 (x % 100) ∧ am_nf (x / 100) = rc.2.2 ∧ am_cn (x / 100) = rc.1 := by
  unfold am_fd am_nf am_cn
  rw [h]
  exact ⟨rfl, rfl, rfl⟩
theorem am_i_get (X : am_Cx G p s m args meth c y n0) {pc x z idx : Nat} (hd : decode (am_M y).2.1 pc = .ok (.getfield idx, 3)) (hch : am_chF y idx x z = true) {ls : am_L} {st : List Value} {h : am_H} {r : am_R} (hs : am_get x (pc + 3) ls st h = some r) (k : am_Wa G p l e R s m args below meth c n0 s0 Q r.1 r.2.1 r.2.2.1 r.2.2.2) : am_Wa G p l e R s m args below meth c n0 s0 Q pc ls st h := by
  obtain ⟨hx, hb, hml, hown, hts, hK, hF, hN, hz, hin⟩ := X
  unfold am_get at hs
  split at hs
  · rename_i a r0
    split at hs
    · rename_i ci fs hca
      split at hs
      · rename_i v hv
        split at hs
        · rename_i hcond
          cases hs
          obtain ⟨hci, hm⟩ := hcond
          subst hci
          intro Ls H locs cells slots hl hM hS hc hsl
          simp only [am_chF, Bool.and_eq_true, decide_eq_true_eq] at hch
          obtain ⟨h1, h2, h3, h4⟩ := hch
          obtain ⟨rc, hrc⟩ : ∃ rc, am_cl[x / 100]? = some rc := ⟨_, List.getElem?_eq_getElem (show x / 100 < 12 from h2)⟩
          obtain ⟨f1, f2, f3⟩ := am_fdk hrc
          obtain ⟨c1, c2, c3, -⟩ := am_cf _ _ hrc
          have he := am_w_at G hm
          rw [hca] at he
          have hlk := am_qz_tb h1
          rw [f1] at hlk
          obtain ⟨C, T, N⟩ := rc
          exact va_get (D := G.1) (ci := x / 100) (v := am_cv G v) (C := C) (T := T) (N := N) (Ts := am_TB) (own := am_own y) (ref := (T (x % 100)).1) hx hb hts c1 hown hK hM.1 (a - 5) he hrc (x % 100) (by rw [f2] at h3; exact h3) (hts _ hlk) (fun _ h => h) (by rw [List.getElem?_map, hv]; rfl) hd (k Ls H locs cells slots hl hM hS hc hsl)
        · cases hs
      · cases hs
    · cases hs
  · cases hs
theorem am_fkn {G : am_G} {ty : FieldType} {v : Value} (h : am_fk ty v = true) : narrow ty (am_cv G v) = am_cv G v ∧ fits ty (am_cv G v) = true := by
  cases ty <;> simp only [am_fk, decide_eq_true_eq] at h <;> first
    | (obtain ⟨q, rfl⟩ := am_vk0 h; exact ⟨rfl, rfl⟩)
    | (obtain ⟨q, rfl⟩ := am_vk1 h; exact ⟨rfl, rfl⟩)
    | (obtain ⟨q, rfl⟩ := am_vk2 h; exact ⟨rfl, rfl⟩)
    | (exact absurd h (by simp))
theorem am_i_put (X : am_Cx G p s m args meth c y n0) {pc x z idx : Nat} (hd : decode (am_M y).2.1 pc = .ok (.putfield idx, 3)) (hch : (am_chF y idx x z && (!(am_fd x).2.2.2 || (decide ((am_M y).1.name = "<init>") && decide ((am_fd x).1 = am_own y)))) = true) {ls : am_L} {st : List Value} {h : am_H} {r : am_R} (hs : am_put x (pc + 3) ls st h = some r) (k : am_Wa G p l e R s m args below meth c n0 s0 Q r.1 r.2.1 r.2.2.1 r.2.2.2) : am_Wa G p l e R s m args below meth c n0 s0 Q pc ls st h := by
  obtain ⟨hx, hb, hml, hown, hts, hK, hF, hN, hz, hin⟩ := X
  unfold am_put at hs
  split at hs
  · rename_i v a r0
    split at hs
    · rename_i ci fs hca
      split at hs
      · rename_i hcond
        cases hs
        obtain ⟨hci, hlen, hm, hfk⟩ := hcond
        subst hci
        intro Ls H locs cells slots hl hM hS hc hsl
        simp only [am_chF, Bool.and_eq_true, decide_eq_true_eq] at hch
        obtain ⟨⟨h1, h2, h3, h4⟩, h5⟩ := hch
        obtain ⟨rc, hrc⟩ : ∃ rc, am_cl[x / 100]? = some rc := ⟨_, List.getElem?_eq_getElem (show x / 100 < 12 from h2)⟩
        obtain ⟨f1, f2, f3⟩ := am_fdk hrc
        obtain ⟨c1, c2, c3, -⟩ := am_cf _ _ hrc
        have he := am_w_at G hm
        rw [hca] at he
        have hlk := am_qz_tb h1
        rw [f1] at hlk h5
        obtain ⟨C, T, N⟩ := rc
        rw [f2] at h3
        obtain ⟨g1, g2⟩ := am_fkn (G := G) hfk
        have kk : ∀ (H1 : Heap) (locs1 : List Loc), va_P G.1 am_cl ((am_w G h).set (a - 5) (am_ad G a, .inr (x / 100, (fs.map (am_cv G)).set (x % 100) (am_cv G v)))) H1 → va_D (am_A G) ((am_w G h).set (a - 5) (am_ad G a, .inr (x / 100, (fs.map (am_cv G)).set (x % 100) (am_cv G v)))) → va_S (am_A G) s.heap H1 locs1 → W p l e R s m args below meth c H1 locs1 cells slots Q (F0 m (pc + 3) Ls (r0.map (am_cv G))) := by
          intro H1 locs1 hP1 _ hS1
          refine k Ls H1 locs1 cells slots hl (am_Mm_set hm hM.2 ?_) hS1 hc hsl
          show va_P G.1 am_cl ((am_w G h).set (a - 5) (am_ad G a, .inr (x / 100, (fs.set (x % 100) v).map (am_cv G)))) H1
          rw [List.map_set]
          exact hP1
        by_cases hfin : (T (x % 100)).2.2.2 = true
        · rw [hfin] at h5
          simp only [Bool.not_true, Bool.false_or, Bool.and_eq_true, decide_eq_true_eq] at h5
          exact va_putF (D := G.1) (ci := x / 100) (v := am_cv G v) (C := C) (T := T) (N := N) (Ts := am_TB) (own := am_own y) (ref := (T (x % 100)).1) hx hb hts c1 (am_ty (x / 100)) c2 c3 hown hK hM.1 (am_D G h) hS (a - 5) he hrc (x % 100) h3 (hts _ hlk) (fun _ h => h) hfin (hin h5.1) h5.2 (c2 _ h3) g1 g2 (by rw [List.length_map]; exact hlen) hd kk
        · exact va_put (D := G.1) (ci := x / 100) (v := am_cv G v) (C := C) (T := T) (N := N) (Ts := am_TB) (own := am_own y) (ref := (T (x % 100)).1) hx hb hts c1 (am_ty (x / 100)) c2 c3 hown hK hM.1 (am_D G h) hS (a - 5) he hrc (x % 100) h3 (hts _ hlk) (fun _ h => h) (by simpa using hfin) (c2 _ h3) g1 g2 (by rw [List.length_map]; exact hlen) hd kk
      · cases hs
    · cases hs
  · cases hs
end AMI
