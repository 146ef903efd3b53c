/-! Arrays, statics, what is made. -/
section AMJ
variable {G : am_G} {p : Program} {l : Launch} {e : Env} {R : Room} {s : State} {m : MethodId} {args : Array Value} {below : List Frame} {meth : Method} {c : Code} {n0 s0 y : Nat} {Q : State → Prop}
theorem am_qn {z : Nat} {w : Jvm.Cond} (hN : am_N s) (h : am_atN z w = true) (hw : am_isN w = true) : va_Nw w s := by
  unfold am_atN at h
  split at h
  · rename_i q hq
    have e := of_decide_eq_true h
    subst e
    exact hN.1 z q hq hw
  · cases h
theorem am_i_gets (X : am_Cx G p s m args meth c y n0) {pc x z idx : Nat} (hd : decode (am_M y).2.1 pc = .ok (.getstatic idx, 3)) (hch : (am_at z (.fieldLink (am_own y) idx (am_sf x).1 (am_sf x).2 "[I") || am_atN z (.fieldLinkNest (am_own y) idx (am_sf x).1 (am_sf x).2 "[I" "WheelRide")) = true) {ls : am_L} {st : List Value} {h : am_H} {r : am_R} (hs : (if 1 ≤ x ∧ x ≤ 4 then some (pc + 3, ls, Value.ref x :: st, h) else none) = some r) (k : am_Wa G p l e R s m args below meth c n0 s0 Q r.1 r.2.1 r.2.2.1 r.2.2.2) : am_Wa G p l e R s m args below meth c n0 s0 Q pc ls st h := by
  obtain ⟨hx, hb, hml, hown, hts, hK, hF, hN, hz, hin⟩ := X
  split at hs
  · rename_i hcond
    cases hs
    intro Ls H locs cells slots hl hM hS hc hsl
    have hZ := hF.2 x hcond.1 hcond.2
    have k' := k Ls H locs cells slots hl hM hS hc hsl
    have e : am_cv G (.ref x) = .ref (G.2.1 x) := by show Value.ref (am_ad G x) = _; rw [am_ad_s (by omega)]
    rw [List.map_cons, e] at k'
    simp only [Bool.or_eq_true] at hch
    rcases hch with h1 | h1
    · exact va_gets (C := (am_sf x).1) (n := (am_sf x).2) (d := "[I") (own := am_own y) (ref := (am_sf x).1) hx hb hZ hS hown (hts _ (am_qz_tb h1)) (fun _ h => h) hd k'
    · exact va_getsN (C := (am_sf x).1) (n := (am_sf x).2) (d := "[I") (own := am_own y) (ref := (am_sf x).1) (host := "WheelRide") hx hb hZ hS hown (va_Nw.use rfl (am_qn hN h1 rfl)) (fun _ h => h) hd k'
  · cases hs
theorem am_stat {h : am_H} {H : Heap} {a tk n : Nat} {f : Nat → Int32} (hM : am_Mm G h H) (ha : a < 5) (hc : h.1 a = .inr (.inl (tk, n, f))) : tk = 0 ∧ n = (G.2.2.2.2 a).1 ∧ f = (G.2.2.2.2 a).2 := by
  have := hM.2 a ha
  rw [hc] at this
  cases this
  exact ⟨rfl, rfl, rfl⟩
theorem am_mut_of {h : am_H} {a : Nat} (h1 : am_in h a = true) (h2 : ¬ a < 5) : am_mut h a = true := by
  unfold am_in at h1
  have := of_decide_eq_true h1
  exact am_mut_iff.mpr ⟨by omega, this⟩
theorem am_i_ald (t : Nat) (ht : t = 0 ∨ t = 1) (X : am_Cx G p s m args meth c y n0) {pc : Nat} (hd : decode (am_M y).2.1 pc = .ok ((if t = 0 then .iaload else .baload), 1)) {ls : am_L} {st : List Value} {h : am_H} {r : am_R} (hs : am_ald t (pc + 1) ls st h = some r) (k : am_Wa G p l e R s m args below meth c n0 s0 Q r.1 r.2.1 r.2.2.1 r.2.2.2) : am_Wa G p l e R s m args below meth c n0 s0 Q pc ls st h := by
  obtain ⟨hx, hb, hml, hown, hts, hK, hF, hN, hz, hin⟩ := X
  unfold am_ald at hs
  split at hs
  · rename_i i a r0
    split at hs
    · rename_i tk n f hca
      split at hs
      · rename_i hcond
        cases hs
        obtain ⟨htk, hi, hix⟩ := hcond
        subst htk
        intro Ls H locs cells slots hl hM hS hc hsl
        have k' := k Ls H locs cells slots hl hM hS hc hsl
        have hin' := am_ix_in hix
        by_cases h5 : a < 5
        · obtain ⟨e1, e2, e3⟩ := am_stat hM h5 hca
          subst e1
          have hT := hF.1 a h5
          rw [← e2, ← e3] at hT
          have := va_ti hx hb hT hS hin' (v := .int (f i.toNatClampNeg)) rfl hd k'
          show W p l e R s m args below meth c H locs cells slots Q (F0 m pc Ls (.int i :: .ref (am_ad G a) :: r0.map (am_cv G)))
          rw [am_ad_s h5]
          exact this
        · have hm := am_mut_of hi h5
          have he := am_w_at G hm
          rw [hca] at he
          rcases ht with ht | ht
          · subst ht
            exact va_iald hx hb hK hM.1 (a - 5) 0 he rfl hin' hd k'
          · subst ht
            exact va_zald hx hb hK hM.1 (a - 5) 1 he rfl hin' hd k'
      · cases hs
    · cases hs
  · cases hs
theorem am_i_ast (t : Nat) (ht : t = 0 ∨ t = 1) (X : am_Cx G p s m args meth c y n0) {pc : Nat} (hd : decode (am_M y).2.1 pc = .ok ((if t = 0 then .iastore else .bastore), 1)) {ls : am_L} {st : List Value} {h : am_H} {r : am_R} (hs : am_ast t (pc + 1) ls st h = some r) (k : am_Wa G p l e R s m args below meth c n0 s0 Q r.1 r.2.1 r.2.2.1 r.2.2.2) : am_Wa G p l e R s m args below meth c n0 s0 Q pc ls st h := by
  obtain ⟨hx, hb, hml, hown, hts, hK, hF, hN, hz, hin⟩ := X
  unfold am_ast at hs
  split at hs
  · rename_i v i a r0
    split at hs
    · rename_i tk n f hca
      split at hs
      · rename_i hcond
        cases hs
        obtain ⟨htk, hm, hix⟩ := hcond
        subst htk
        intro Ls H locs cells slots hl hM hS hc hsl
        have hin' := am_ix_in hix
        have he := am_w_at G hm
        rw [hca] at he
        rcases ht with ht | ht
        · subst ht
          exact va_iast hx hb hK hM.1 (am_D G h) hS (a - 5) 0 he rfl hin' hd (fun H1 locs1 hP1 _ hS1 => k Ls H1 locs1 cells slots hl (am_Mm_set hm hM.2 hP1) hS1 hc hsl)
        · subst ht
          exact va_zast hx hb hK hM.1 (am_D G h) hS (a - 5) 1 he rfl hin' hd (fun H1 locs1 hP1 _ hS1 => k Ls H1 locs1 cells slots hl (am_Mm_set hm hM.2 hP1) hS1 hc hsl)
      · cases hs
    · cases hs
  · cases hs
theorem am_i_qld (X : am_Cx G p s m args meth c y n0) {pc : Nat} (hd : decode (am_M y).2.1 pc = .ok (.aaload, 1)) {ls : am_L} {st : List Value} {h : am_H} {r : am_R} (hs : am_qld (pc + 1) ls st h = some r) (k : am_Wa G p l e R s m args below meth c n0 s0 Q r.1 r.2.1 r.2.2.1 r.2.2.2) : am_Wa G p l e R s m args below meth c n0 s0 Q pc ls st h := by
  obtain ⟨hx, hb, hml, hown, hts, hK, hF, hN, hz, hin⟩ := X
  unfold am_qld at hs
  split at hs
  · rename_i i a r0
    split at hs
    · rename_i tk n f hca
      split at hs
      · rename_i b hfb
        split at hs
        · rename_i hcond
          cases hs
          obtain ⟨htk, hm, hix⟩ := hcond
          intro Ls H locs cells slots hl hM hS hc hsl
          have k' := k Ls H locs cells slots hl hM hS hc hsl
          have hin' := am_ix_in hix
          have he := am_w_at G hm
          rw [hca] at he
          have ev : va_rf ((f i.toNatClampNeg).map (am_ad G)) = .ref (am_ad G b) := by rw [hfb]; rfl
          have hlt : i.toNatClampNeg < n := Nat.not_le.mp fun q => hin' (Or.inr q)
          rcases (show tk = 0 ∨ tk = 1 by omega) with h0 | h0
          · subst h0
            refine va_aldq hx hb hK hM.1 (a - 5) 2 he rfl hin' hd ?_
            rw [ev]
            exact k'
          · subst h0
            refine W.aald (v := va_rf ((f i.toNatClampNeg).map (am_ad G))) (ty := .array .int) hx hb (hM.1 (a - 5) _ he) ((hK.2 3 _ rfl).1 n (fun j => va_rf ((f j).map (am_ad G)))) rfl (fun q => by cases q) (by show ¬ (i < 0 ∨ (arrV _ _ _).slots.size ≤ _); rw [arrV_size]; exact hin') (by show (arrV _ _ _).slots[_]? = _; rw [arrV_read _ _ hlt]) rfl rfl hd ?_
            rw [ev]
            exact k'
        · cases hs
      · cases hs
    · cases hs
  · cases hs
theorem am_i_qst (X : am_Cx G p s m args meth c y n0) {pc : Nat} (hd : decode (am_M y).2.1 pc = .ok (.aastore, 1)) {ls : am_L} {st : List Value} {h : am_H} {r : am_R} (hs : am_qst (pc + 1) ls st h = some r) (k : am_Wa G p l e R s m args below meth c n0 s0 Q r.1 r.2.1 r.2.2.1 r.2.2.2) : am_Wa G p l e R s m args below meth c n0 s0 Q pc ls st h := by
  obtain ⟨hx, hb, hml, hown, hts, hK, hF, hN, hz, hin⟩ := X
  unfold am_qst at hs
  split at hs
  · rename_i b i a r0
    split at hs
    · rename_i n f hca
      split at hs
      · rename_i ci fs hcb
        split at hs
        · rename_i hcond
          cases hs
          obtain ⟨hci, hmb, hm, hix⟩ := hcond
          subst hci
          intro Ls H locs cells slots hl hM hS hc hsl
          have hin' := am_ix_in hix
          have he := am_w_at G hm
          rw [hca] at he
          have hev := am_w_at G hmb
          rw [hcb] at hev
          refine va_astq (r := (am_R9, am_T9, 13)) hx hb hK hM.1 (am_D G h) hS (a - 5) 2 (b - 5) 9 he rfl hev rfl hin' hd (fun H1 locs1 hP1 _ hS1 => k Ls H1 locs1 cells slots hl (am_Mm_set hm hM.2 ?_) hS1 hc hsl)
          have e : (fun j => (va_up f i.toNatClampNeg (some b) j).map (am_ad G)) = va_up (fun j => (f j).map (am_ad G)) i.toNatClampNeg (some (am_ad G b)) := by
            funext j
            unfold va_up
            split <;> rfl
          show va_P G.1 am_cl ((am_w G h).set (a - 5) (am_ad G a, .inl (_, n, .inr (.inr (.inr (.inr (fun j => (va_up f i.toNatClampNeg (some b) j).map (am_ad G)))))))) H1
          rw [e]
          exact hP1
        · cases hs
      · cases hs
    · cases hs
  · cases hs
theorem am_i_len (X : am_Cx G p s m args meth c y n0) {pc : Nat} (hd : decode (am_M y).2.1 pc = .ok (.arraylength, 1)) {ls : am_L} {st : List Value} {h : am_H} {r : am_R} (hs : am_len1 (pc + 1) ls st h = some r) (k : am_Wa G p l e R s m args below meth c n0 s0 Q r.1 r.2.1 r.2.2.1 r.2.2.2) : am_Wa G p l e R s m args below meth c n0 s0 Q pc ls st h := by
  obtain ⟨hx, hb, hml, hown, hts, hK, hF, hN, hz, hin⟩ := X
  unfold am_len1 at hs
  split at hs
  · rename_i a r0
    split at hs
    · rename_i n f hca
      split at hs
      · rename_i hi
        cases hs
        intro Ls H locs cells slots hl hM hS hc hsl
        have k' := k Ls H locs cells slots hl hM hS hc hsl
        by_cases h5 : a < 5
        · obtain ⟨e1, e2, e3⟩ := am_stat hM h5 hca
          have hT := hF.1 a h5
          rw [← e2, ← e3] at hT
          have := va_tlen hx hb hT hS (v := Int32.ofNat n) rfl hd k'
          show W p l e R s m args below meth c H locs cells slots Q (F0 m pc Ls (.ref (am_ad G a) :: r0.map (am_cv G)))
          rw [am_ad_s h5]
          exact this
        · have hm := am_mut_of hi h5
          have he := am_w_at G hm
          rw [hca] at he
          exact va_alen hx hb hK hM.1 (a - 5) 0 he rfl rfl hd k'
      · cases hs
    · cases hs
  · cases hs
theorem am_i_new (X : am_Cx G p s m args meth c y n0) {pc x z idx : Nat} (hd : decode (am_M y).2.1 pc = .ok (.new idx, 3)) (hch : am_at z (.classLink (am_own y) idx (am_cn x)) = true) {ls : am_L} {st : List Value} {h : am_H} {r : am_R} (hs : am_new x (pc + 3) ls st h = some r) (hrc : r.2.2.2.2.1 ≤ R.cells + n0) (hrs : r.2.2.2.2.2 ≤ R.slots + s0) (k : am_Wa G p l e R s m args below meth c n0 s0 Q r.1 r.2.1 r.2.2.1 r.2.2.2) : am_Wa G p l e R s m args below meth c n0 s0 Q pc ls st h := by
  obtain ⟨hx, hb, hml, hown, hts, hK, hF, hN, hz, hin⟩ := X
  unfold am_new at hs
  split at hs
  · rename_i hx12
    cases hs
    intro Ls H locs cells slots hl hM hS hc hsl
    obtain ⟨rc, hrc'⟩ : ∃ rc, am_cl[x]? = some rc := ⟨_, List.getElem?_eq_getElem (show x < 12 from hx12)⟩
    obtain ⟨c1, c2, c3, c4, c5⟩ := am_cf _ _ hrc'
    have f2 : am_nf x = rc.2.2 := by unfold am_nf; rw [hrc']
    have f3 : am_cn x = rc.1 := by unfold am_cn; rw [hrc']
    have hlk := am_qz_tb hch
    rw [f3] at hlk
    obtain ⟨C, T, N⟩ := rc
    dsimp only at f2 f3 c1 c2 c3 c4 c5 hlk hrc hrs
    have r1 : h.2.1 + 1 ≤ R.cells + n0 := hrc
    have r2 : h.2.2 + am_nf x ≤ R.slots + s0 := hrs
    refine va_new (D := G.1) (ci := x) (fs := ((List.range (am_nf x)).map (fun k => am_dv (am_ty x k))).map (am_cv G)) (C := C) (T := T) (N := N) (Ts := am_TB) (own := am_own y) hx hb hts c1 (am_ty x) c2 hown (hts _ hlk) (hts _ c4) (hts _ c5) hK hM.1 (am_D G h) hS (am_hA hz) hrc' ?_ (by omega) (by omega) hd (fun q H1 hP1 hD1 hS1 => am_size fun hu => ?_)
    · intro j hj
      have hcv : ∀ ty : FieldType, am_cv G (defaultValue ty) = defaultValue ty := fun ty => by cases ty <;> rfl
      simp only [vp_V, List.map_map, List.getD_eq_getElem?_getD, List.getElem?_map]
      rw [List.getElem?_range (by omega)]
      show defaultValue (am_ty x j) = am_cv G (am_dv (am_ty x j))
      exact (hcv _).symm
    · have hq := am_where hP1 hD1 hz hc hu
      have k' := k Ls H1 locs (cells + 1) (slots + N) hl (am_Mm_push hM.2 hq hP1) hS1 (by show cells + 1 + n0 = h.2.1 + 1; omega) (by show slots + N + s0 = h.2.2 + am_nf x; omega)
      have e : am_cv G (.ref (h.2.1 + 5)) = .ref q := by show Value.ref (am_ad G (h.2.1 + 5)) = _; rw [am_ad_m (by omega), hq]; rfl
      rw [List.map_cons, e] at k'
      exact k'
  · cases hs
theorem am_cA {ty : FieldType} {cA : ClassId} (t : Nat) (hK : va_K G.1 am_cl (am_tys G) s) (ht : (am_tys G)[t]? = some (G.2.2.2.1 t, ty)) (hr : va_RA s cA ty) (hn : ∀ C, ty ≠ .object C) : cA = G.2.2.2.1 t := by
  have h1 := (hK.2 t _ ht).2
  cases ty with
  | object C => exact absurd rfl (hn C)
  | _ => exact Option.some.inj (hr.symm.trans h1)
theorem am_i_nwa (t : Nat) (at' : ArrayType) (ht : (t = 0 ∧ at' = .int) ∨ (t = 1 ∧ at' = .boolean)) (X : am_Cx G p s m args meth c y n0) (harr : (Jvm.Cond.arrayClass .int).before args s = true ∧ (Jvm.Cond.arrayClass .boolean).before args s = true) {pc : Nat} (hd : decode (am_M y).2.1 pc = .ok (.newarray at', 2)) {ls : am_L} {st : List Value} {h : am_H} {r : am_R} (hs : am_nwa t (pc + 2) ls st h = some r) (hrc : r.2.2.2.2.1 ≤ R.cells + n0) (hrs : r.2.2.2.2.2 ≤ R.slots + s0) (k : am_Wa G p l e R s m args below meth c n0 s0 Q r.1 r.2.1 r.2.2.1 r.2.2.2) : am_Wa G p l e R s m args below meth c n0 s0 Q pc ls st h := by
  obtain ⟨hx, hb, hml, hown, hts, hK, hF, hN, hz, hin⟩ := X
  unfold am_nwa at hs
  split at hs
  · rename_i n r0
    split at hs
    · cases hs
    · rename_i hcond
      cases hs
      intro Ls H locs cells slots hl hM hS hc hsl
      have r1 : h.2.1 + 1 ≤ R.cells + n0 := hrc
      have r2 : h.2.2 + n.toNatClampNeg ≤ R.slots + s0 := hrs
      have h1 : ¬ n < 0 := fun q => hcond (Or.inl q)
      have h2 : n.toNatClampNeg ≤ 1000 := Nat.le_of_not_lt fun q => hcond (Or.inr q)
      have fin : ∀ (q : Nat) (H1 : Heap) (cA : ClassId), cA = G.2.2.2.1 t → va_P G.1 am_cl (am_w G h ++ [(q, .inl (cA, n.toNatClampNeg, .inl (fun _ => 0)))]) H1 → va_D (am_A G) (am_w G h ++ [(q, .inl (cA, n.toNatClampNeg, .inl (fun _ => 0)))]) → va_S (am_A G) s.heap H1 locs → W p l e R s m args below meth c H1 locs (cells + 1) (slots + n.toNatClampNeg) Q (F0 m (pc + 2) Ls (.ref q :: r0.map (am_cv G))) := by
        intro q H1 cA hcA hP1 hD1 hS1
        subst hcA
        refine am_size fun hu => ?_
        have hq := am_where hP1 hD1 hz hc hu
        have k' := k Ls H1 locs (cells + 1) (slots + n.toNatClampNeg) hl (am_Mm_push hM.2 hq hP1) hS1 (by show cells + 1 + n0 = h.2.1 + 1; omega) (by show slots + n.toNatClampNeg + s0 = h.2.2 + n.toNatClampNeg; omega)
        have e : am_cv G (.ref (h.2.1 + 5)) = .ref q := by show Value.ref (am_ad G (h.2.1 + 5)) = _; rw [am_ad_m (by omega), hq]; rfl
        rw [List.map_cons, e] at k'
        exact k'
      rcases ht with ⟨rfl, rfl⟩ | ⟨rfl, rfl⟩
      · refine va_newa (atype := .int) (ty := .int) (a0 := (n.toNatClampNeg, .inl (fun _ => 0))) hx hb harr.1 rfl hK hM.1 (am_D G h) hS (am_hA hz) (fun cA => rfl) h1 rfl (by show n.toNatClampNeg * 4 ≤ _; omega) (by omega) (by omega) hd (fun q cA H1 hK1 hP1 hD1 hS1 => fin q H1 cA (am_cA (ty := .int) 0 hK rfl (hK1.2 4 (cA, .int) rfl).2 (fun C h => by cases h)) hP1 hD1 hS1)
      · refine va_newa (atype := .boolean) (ty := .boolean) (a0 := (n.toNatClampNeg, .inl (fun _ => 0))) hx hb harr.2 rfl hK hM.1 (am_D G h) hS (am_hA hz) (fun cA => rfl) h1 rfl (by show n.toNatClampNeg * 1 ≤ _; omega) (by omega) (by omega) hd (fun q cA H1 hK1 hP1 hD1 hS1 => fin q H1 cA (am_cA (ty := .boolean) 1 hK rfl (hK1.2 4 (cA, .boolean) rfl).2 (fun C h => by cases h)) hP1 hD1 hS1)
  · cases hs
theorem am_i_nwq (X : am_Cx G p s m args meth c y n0) {pc idx z : Nat} (hd : decode (am_M y).2.1 pc = .ok (.anewarray idx, 3)) (hch : am_at z (.classLink (am_own y) idx "WheelRide$Wheel") = true) {ls : am_L} {st : List Value} {h : am_H} {r : am_R} (hs : am_nwq (pc + 3) ls st h = some r) (hrc : r.2.2.2.2.1 ≤ R.cells + n0) (hrs : r.2.2.2.2.2 ≤ R.slots + s0) (k : am_Wa G p l e R s m args below meth c n0 s0 Q r.1 r.2.1 r.2.2.1 r.2.2.2) : am_Wa G p l e R s m args below meth c n0 s0 Q pc ls st h := by
  obtain ⟨hx, hb, hml, hown, hts, hK, hF, hN, hz, hin⟩ := X
  unfold am_nwq at hs
  split at hs
  · rename_i n r0
    split at hs
    · cases hs
    · rename_i hcond
      cases hs
      intro Ls H locs cells slots hl hM hS hc hsl
      have r1 : h.2.1 + 1 ≤ R.cells + n0 := hrc
      have r2 : h.2.2 + n.toNatClampNeg ≤ R.slots + s0 := hrs
      have h1 : ¬ n < 0 := fun q => hcond (Or.inl q)
      have h2 : n.toNatClampNeg ≤ 1000 := Nat.le_of_not_lt fun q => hcond (Or.inr q)
      refine va_newq (own := am_own y) (C := "WheelRide$Wheel") hx hb hown (hts _ (am_qz_tb hch)) hN.2.1 hK hM.1 (am_D G h) hS (am_hA hz) h1 rfl (by omega) (by omega) (by omega) hd (fun q cA H1 hK1 hP1 hD1 hS1 => am_size fun hu => ?_)
      have hcA : cA = G.2.2.2.1 2 := by
        obtain ⟨_, _, _, _, _, g1⟩ := (hK1.2 4 (cA, .object "WheelRide$Wheel") rfl).2
        obtain ⟨_, _, _, _, _, g2⟩ := (hK.2 2 _ rfl).2
        exact Option.some.inj (g1.symm.trans g2)
      subst hcA
      have hq := am_where hP1 hD1 hz hc hu
      have k' := k Ls H1 locs (cells + 1) (slots + n.toNatClampNeg) hl (am_Mm_push hM.2 hq hP1) hS1 (by show cells + 1 + n0 = h.2.1 + 1; omega) (by show slots + n.toNatClampNeg + s0 = h.2.2 + n.toNatClampNeg; omega)
      have e : am_cv G (.ref (h.2.1 + 5)) = .ref q := by show Value.ref (am_ad G (h.2.1 + 5)) = _; rw [am_ad_m (by omega), hq]; rfl
      rw [List.map_cons, e] at k'
      exact k'
  · cases hs
end AMJ
