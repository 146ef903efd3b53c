/-! Calls, and the whole. -/
section AMC
variable {G : am_G} {p : Program} {l : Launch} {e : Env} {R : Room} {s : State} {m : MethodId} {args : Array Value} {below : List Frame} {meth : Method} {c : Code} {n0 s0 y : Nat} {Q : State → Prop}
theorem am_goodA {a b : List Jvm.Cond} {big : List Jvm.Cond} (ha : ∀ w ∈ a, w ∈ am_TB) (hb : GoodIn am_TB b) : GoodIn am_TB (a ++ b) := by
  intro w hw
  rcases List.mem_append.mp hw with h | h
  · exact ⟨ha w h, good_of_word (List.mem_filter.mp (ha w h)).2⟩
  · exact hb w h
theorem am_arg_ok {i : Instr} {x : Nat} {st vs rr : List Value} {h : am_H} (ha : am_arg i x st h = some (vs, rr)) : x < 239 ∧ am_cats rr ≤ 8 ∧ (am_sl vs).length ≤ (am_M x).2.2.1 ∧ (am_M x).2.2.1 ≤ 20 ∧ st = vs.reverse ++ rr ∧ vs.length = am_ka x ∧
    ((∃ q, i = .invokestatic q ∧ (am_M x).2.2.2.2.1 = 0) ∨ (∃ q b tl ci fs rc, i = .invokevirtual q ∧ (am_M x).2.2.2.2.1 = 1 ∧ vs = .ref b :: tl ∧ h.1 b = .inl (ci, fs) ∧ am_mut h b = true ∧ am_cl[ci]? = some rc ∧ rc.1 = (am_M x).1.cls) ∨ ∃ q b tl, i = .invokespecial q ∧ (am_M x).2.2.2.2.1 = 2 ∧ vs = .ref b :: tl) := by
  unfold am_arg at ha
  dsimp only at ha
  split at ha
  · rename_i hc
    obtain ⟨c1, c2, c3, c4, c5⟩ := hc
    have fin : ∀ vs' rr' : List Value, vs' = (st.take (am_ka x)).reverse → rr' = st.drop (am_ka x) → x < 239 ∧ am_cats rr' ≤ 8 ∧ (am_sl vs').length ≤ (am_M x).2.2.1 ∧ (am_M x).2.2.1 ≤ 20 ∧ st = vs'.reverse ++ rr' ∧ vs'.length = am_ka x := by
      intro vs' rr' e1 e2
      subst e1
      subst e2
      exact ⟨c1, c3, c4, c5, by rw [List.reverse_reverse, List.take_append_drop], by rw [List.length_reverse, List.length_take]; omega⟩
    split at ha
    · rename_i q hk
      cases ha
      obtain ⟨f1, f2, f3, f4, f5, f6⟩ := fin _ _ rfl rfl
      exact ⟨f1, f2, f3, f4, f5, f6, Or.inl ⟨_, rfl, hk⟩⟩
    · rename_i q hk
      split at ha
      · rename_i b tl hvs
        split at ha
        · rename_i ci fs hcb
          split at ha
          · rename_i hq
            cases ha
            obtain ⟨f1, f2, f3, f4, f5, f6⟩ := fin _ _ rfl rfl
            obtain ⟨rc, g1, g2⟩ := Option.map_eq_some_iff.mp hq.2
            exact ⟨f1, f2, f3, f4, f5, f6, Or.inr (Or.inl ⟨_, b, tl, ci, fs, rc, rfl, hk, hvs, hcb, hq.1, g1, g2⟩)⟩
          · cases ha
        · cases ha
      · cases ha
    · rename_i q hk
      split at ha
      · rename_i b tl hvs
        cases ha
        obtain ⟨f1, f2, f3, f4, f5, f6⟩ := fin _ _ rfl rfl
        exact ⟨f1, f2, f3, f4, f5, f6, Or.inr (Or.inr ⟨_, b, tl, rfl, hk, hvs⟩)⟩
      · cases ha
    · cases ha
  · cases ha
set_option maxHeartbeats 4000000 in
theorem am_call (X : am_Cx G p s m args meth c y n0) {pc x z d : Nat} {i : Instr} (hch : am_chk y pc (i, x, z) = true) {ls : am_L} {st vs rr : List Value} {h h1 : am_H} {v : Option Value} (hlen : ls.length = (am_M y).2.2.1) (ha : am_arg i x st h = some (vs, rr)) (hM : am_Met G l d x vs h v h1) (hmo : h.2.1 ≤ h1.2.1 ∧ h.2.2 ≤ h1.2.2) (hfr : d + 1 ≤ R.frames) (hlo : 48 * (d + 1) ≤ R.locals) (hrc : h1.2.1 ≤ R.cells + n0) (hrs : h1.2.2 ≤ R.slots + s0) (k : am_Wa G p l e R s m args below meth c n0 s0 Q (pc + 3) ls (v.toList ++ rr) h1) : am_Wa G p l e R s m args below meth c n0 s0 Q pc ls st h := by
  obtain ⟨hx, hb, hml, hown, hts, hK, hF, hN, hz, hin⟩ := X
  obtain ⟨a1, a2, a3, a4, a5, a6, a7⟩ := am_arg_ok ha
  unfold am_chk at hch
  simp only [Bool.and_eq_true] at hch
  obtain ⟨hcD, hcL⟩ := hch
  obtain ⟨hd, -⟩ := am_dec hcD
  have hY := am_oy a1
  unfold am_chY at hY
  simp only [Bool.and_eq_true, decide_eq_true_eq] at hY
  obtain ⟨⟨⟨⟨y1, y2⟩, y3⟩, y4, y5, y6⟩, y7⟩ := hY
  intro Ls H locs cells slots hl hMm hS hc hsl
  refine am_size fun hu => ?_
  have hsz : H.size = G.2.2.1 + h.2.1 := by
    have := am_lo (n0 := n0) hMm.1 hS hz
    omega
  have S : CallFix p m c (am_M y).2.1 (am_M y).2.2.1 s args am_TB (am_own y) := ⟨hx, hb, hml, hown, hts⟩
  have hPre : ∀ U : State, U.heap = H → s.WarmedH U.vm → am_Pc G vs h (vs.map (am_cv G)).toArray U := fun U hU hW => ⟨rfl, by rw [hU]; exact hMm, by rw [hU]; exact hsz, va_K.moved hW.alike hK, by rw [hU]; exact am_F_warm hW hS hF, am_N_warm hW hN⟩
  have hR : (am_rm d (h1.2.1 - h.2.1) (h1.2.2 - h.2.2)).frames + 1 ≤ R.frames ∧ 8 + ((am_M x).2.2.1 + 11) + (am_rm d (h1.2.1 - h.2.1) (h1.2.2 - h.2.2)).locals ≤ R.locals := ⟨hfr, by show 8 + ((am_M x).2.2.1 + 11) + 48 * d ≤ _; omega⟩
  have hfc : cells + (h1.2.1 - h.2.1) ≤ R.cells ∧ slots + (h1.2.2 - h.2.2) ≤ R.slots := ⟨by omega, by omega⟩
  have hsize : (F0 m pc Ls (st.map (am_cv G))).locals.size = (am_M y).2.2.1 := by rw [← hlen]; exact hl.1
  have hcat : 2 * (F0 m pc Ls (st.map (am_cv G))).monitorRoom + ((rr.map (am_cv G)).map fun v => v.category).sum ≤ 8 := lv_room (by rw [am_cats_map]; exact a2)
  have hini := am_qz_tb y3
  have hgd := am_good x a1
  have kk : ∀ (v' : Option Value) (st₀ t : State) (locs1 : List Loc) (aa : Array Value), st₀.heap = H → am_Qc G v h1 aa st₀ (.returned v') t → (∀ q ∈ locs1, am_A G q.base) → W p l e R s m args below meth c t.heap locs1 (cells + (h1.2.1 - h.2.1)) (slots + (h1.2.2 - h.2.2)) Q (F0 m (pc + 3) Ls (v'.toList ++ rr.map (am_cv G))) := by
    intro v' st₀ t locs1 aa h0 hq hL1
    obtain ⟨q1, q2, q3, q4⟩ := hq
    have e1 : v' = v.map (am_cv G) := Outcome.returned.inj q1
    rw [h0] at q3 q4
    have k' := k Ls t.heap locs1 (cells + (h1.2.1 - h.2.1)) (slots + (h1.2.2 - h.2.2)) hl q2 ⟨Nat.le_trans hS.1 q3, fun q g1 g2 => (q4 q (Nat.lt_of_lt_of_le g1 hS.1) g2).trans (hS.2.1 q g1 g2), hL1⟩ (by omega) (by omega)
    have e2 : (v.toList ++ rr).map (am_cv G) = v'.toList ++ rr.map (am_cv G) := by
      rw [e1, List.map_append]
      cases v <;> rfl
    rw [e2] at k'
    exact k'
  rcases a7 with ⟨idx, rfl, hk⟩ | ⟨idx, b, tl, ci, fs, rc, rfl, hk, hvs, hcb, hmb, hrc', hcls⟩ | ⟨idx, b, tl, rfl, hk, hvs⟩
  · have hd' := hd (by simp [am_len])
    simp only [am_chL] at hcL
    rw [if_neg (by omega)] at hcL
    simp only [Bool.or_eq_true] at hcL
    unfold am_ka at a6
    rw [hk] at y2 a6
    have hst := am_qz_tb y2
    have hstk : (F0 m pc Ls (st.map (am_cv G))).stack = (vs.map (am_cv G)).reverse ++ rr.map (am_cv G) := by
      show st.map (am_cv G) = _
      rw [a5, List.map_append, List.map_reverse]
    have hn : (vs.map (am_cv G)).length = (am_M x).2.2.2.2.2.1 := by rw [List.length_map]; simpa using a6
    rcases hcL with hcL | hcL
    · refine am_callA (va_runS (As := vs.map (am_cv G)) (rest := rr.map (am_cv G)) S hM (va_cwS (am_M x).2.2.2.2.2.1 hts (am_goodA (big := am_TB) ?_ hgd) rfl rfl rfl ⟨y4, y5, y6⟩ hR) ⟨am_blind G vs h, hPre⟩ rfl hn hsize hstk hcat hd' hfc) hS.2.2 (fun v' st₀ t locs1 h0 hq hL1 => kk v' st₀ t locs1 _ h0 hq hL1)
      intro w hw
      simp only [List.mem_cons, List.not_mem_nil, or_false] at hw
      rcases hw with rfl | rfl | rfl
      · exact am_qz_tb hcL
      · exact hst
      · exact hini
    · exact am_callA (va_runSN (As := vs.map (am_cv G)) (rest := rr.map (am_cv G)) (host := "WheelRide") S hM ⟨va_cnB (am_M x).2.2.2.2.2.1 hts hgd rfl rfl rfl (am_qn hN hcL rfl) (hts _ hini) ⟨y4, y5, y6⟩ hR, hts _ hst, trivial⟩ ⟨am_blind G vs h, hPre⟩ rfl hn hsize hstk hcat hd' hfc) hS.2.2 (fun v' st₀ t locs1 h0 hq hL1 => kk v' st₀ t locs1 _ h0 hq hL1)
  · have hd' := hd (by simp [am_len])
    simp only [am_chL] at hcL
    unfold am_ka at a6
    rw [hk] at y2 a6
    simp only [Bool.and_eq_true] at y2
    subst hvs
    have hstk : (F0 m pc Ls (st.map (am_cv G))).stack = (tl.map (am_cv G)).reverse ++ .ref (am_ad G b) :: rr.map (am_cv G) := by
      show st.map (am_cv G) = _
      rw [a5]
      simp [am_cv]
    have hn : (tl.map (am_cv G)).length = (am_M x).2.2.2.2.2.1 := by rw [List.length_map]; simpa using a6
    have he := am_w_at G hmb
    rw [hcb] at he
    have hrv := va_recv hK hMm.1 hrc' he
    rw [hcls] at hrv
    refine am_callA (va_runV (As := tl.map (am_cv G)) (rest := rr.map (am_cv G)) (C := (am_M x).1.cls) S hM (cwV (am_M x).2.2.2.2.2.1 hts (am_goodA (big := am_TB) ?_ hgd) rfl rfl rfl ⟨rfl, y4, y5, y6⟩ hR) ⟨am_blind G _ h, hrv, hPre⟩ rfl hn hsize hstk hcat hd' hfc) hS.2.2 (fun v' st₀ t locs1 h0 hq hL1 => kk v' st₀ t locs1 _ h0 hq hL1)
    intro w hw
    simp only [List.mem_cons, List.not_mem_nil, or_false] at hw
    rcases hw with rfl | rfl | rfl | rfl
    · exact am_qz_tb hcL
    · exact am_qz_tb y2.1
    · exact am_qz_tb y2.2
    · exact hini
  · have hd' := hd (by simp [am_len])
    simp only [am_chL] at hcL
    rw [if_neg (by omega)] at hcL
    simp only [Bool.or_eq_true] at hcL
    unfold am_ka at a6
    rw [hk] at y2 a6
    simp only [Bool.and_eq_true, decide_eq_true_eq] at y2
    subst hvs
    have hwn : am_ws x = Jvm.Cond.code (am_M x).1 (am_M x).2.1 (am_M x).2.2.1 none :: am_TB := by unfold am_ws; rw [y2.2.2]
    have hstk : (F0 m pc Ls (st.map (am_cv G))).stack = (tl.map (am_cv G)).reverse ++ .ref (am_ad G b) :: rr.map (am_cv G) := by
      show st.map (am_cv G) = _
      rw [a5]
      simp [am_cv]
    have hn : (tl.map (am_cv G)).length = (am_M x).2.2.2.2.2.1 := by rw [List.length_map]; simpa using a6
    rcases hcL with hcL | hcL
    · exact am_callA (va_runI (As := tl.map (am_cv G)) (rest := rr.map (am_cv G)) S hM (cwI (am_M x).2.2.2.2.2.1 hts hgd hwn rfl rfl (hts _ hini) (hts _ (am_qz_tb hcL)) (hts _ (am_qz_tb y2.1)) y2.2.1 ⟨y4, y5, y6⟩ hR) ⟨am_blind G _ h, hPre⟩ rfl hn hsize hstk hcat hd' hfc) hS.2.2 (fun v' st₀ t locs1 h0 hq hL1 => kk v' st₀ t locs1 _ h0 hq hL1)
    · exact am_callA (va_runIN (As := tl.map (am_cv G)) (rest := rr.map (am_cv G)) (host := "WheelRide") S hM ⟨va_cnB (am_M x).2.2.2.2.2.1 hts hgd hwn rfl rfl (am_qn hN hcL rfl) (hts _ hini) ⟨y4, y5, y6⟩ hR, y2.2.1, hts _ (am_qz_tb y2.1)⟩ ⟨am_blind G _ h, hPre⟩ rfl hn hsize hstk hcat hd' hfc) hS.2.2 (fun v' st₀ t locs1 h0 hq hL1 => kk v' st₀ t locs1 _ h0 hq hL1)
end AMC
