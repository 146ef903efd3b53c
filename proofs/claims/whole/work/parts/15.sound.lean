set_option maxRecDepth 100000 in
theorem am_okL80 : am_chS 239 80 4 = true := by decide +kernel
theorem am_chA_at (y : Nat) : ∀ (l : List (Option am_E)) (pc k : Nat) (e : am_E), am_chA y pc l = true → l.getD k none = some e → am_chk y (pc + k) e = true
  | [], _, _, _, _, h => by simp at h
  | none :: r, pc, 0, e, _, h => by simp at h
  | none :: r, pc, k + 1, e, hc, h => by
    have := am_chA_at y r (pc + 1) k e hc (by simpa using h)
    rwa [show pc + (k + 1) = pc + 1 + k by omega]
  | some q :: r, pc, 0, e, hc, h => by
    simp only [am_chA, Bool.and_eq_true] at hc
    have e1 : q = e := by simpa using h
    rw [← e1]
    exact hc.1
  | some q :: r, pc, k + 1, e, hc, h => by
    simp only [am_chA, Bool.and_eq_true] at hc
    have := am_chA_at y r (pc + 1) k e hc.2 (by simpa using h)
    rwa [show pc + (k + 1) = pc + 1 + k by omega]
theorem am_chB_at (y : Nat) : ∀ (l : List (List (Option am_E))) (pc a : Nat) (c : List (Option am_E)), am_chB y pc l = true → l[a]? = some c → am_chA y (pc + 16 * a) c = true
  | [], _, _, _, _, h => by simp at h
  | q :: r, pc, 0, c, hc, h => by
    simp only [am_chB, Bool.and_eq_true] at hc
    cases h
    exact hc.1
  | q :: r, pc, a + 1, c, hc, h => by
    simp only [am_chB, Bool.and_eq_true] at hc
    have := am_chB_at y r (pc + 16) a c hc.2 h
    rwa [show pc + 16 * (a + 1) = pc + 16 + 16 * a by omega]
theorem am_lines {y : Nat} (hc : ∀ a c, (am_cod y)[a]? = some c → am_chA y (16 * a) c = true) {pc : Nat} {e : am_E} (h : am_P y pc = some e) : am_chk y pc e = true := by
  unfold am_P at h
  cases hq : (am_cod y)[pc / 16]? with
  | none => rw [List.getD_eq_getElem?_getD (l := am_cod y), hq] at h; simp at h
  | some c =>
    rw [List.getD_eq_getElem?_getD (l := am_cod y), hq] at h
    have := am_chA_at y c _ (pc % 16) e (hc _ _ hq) h
    rwa [show 16 * (pc / 16) + pc % 16 = pc by omega] at this
theorem am_code_ok {y pc : Nat} {e : am_E} (hy : y < 240) (h : am_P y pc = some e) : am_chk y pc e = true := by
  by_cases h8 : y < 239
  · have use : ∀ a b : Nat, am_chM a b = true → a ≤ y → y < b → am_chB y 0 (am_cod y) = true := by
      intro a b hm h1 h2
      have h3 := List.all_eq_true.mp hm (y - a) (List.mem_range.mpr (by omega))
      rw [show a + (y - a) = y by omega] at h3
      exact h3
    have hB : am_chB y 0 (am_cod y) = true := by
      by_cases q1 : y < 30
      · exact use 0 30 am_ok0 (by omega) q1
      by_cases q2 : y < 60
      · exact use 30 60 am_ok30 (by omega) q2
      by_cases q3 : y < 90
      · exact use 60 90 am_ok60 (by omega) q3
      by_cases q4 : y < 120
      · exact use 90 120 am_ok90 (by omega) q4
      by_cases q5 : y < 150
      · exact use 120 150 am_ok120 (by omega) q5
      by_cases q6 : y < 180
      · exact use 150 180 am_ok150 (by omega) q6
      by_cases q7 : y < 210
      · exact use 180 210 am_ok180 (by omega) q7
      · exact use 210 239 am_ok210 (by omega) h8
    refine am_lines (fun a c hc => ?_) h
    have := am_chB_at y _ 0 a c hB hc
    rwa [Nat.zero_add] at this
  · have e8 : y = 239 := by omega
    subst e8
    refine am_lines (fun a c hc => ?_) h
    have use : ∀ b n : Nat, am_chS 239 b n = true → b ≤ a → a < b + n → am_chA 239 (16 * a) c = true := by
      intro b n hs h1 h2
      have := am_chB_at 239 _ (16 * b) (a - b) c hs (by rw [List.getElem?_take, if_pos (by omega), List.getElem?_drop, show b + (a - b) = a by omega]; exact hc)
      rwa [show 16 * b + 16 * (a - b) = 16 * a by omega] at this
    have hl : a < 82 := (List.getElem?_eq_some_iff.mp hc).1
    by_cases q0 : a < 4
    · exact use 0 4 am_okL0 (by omega) q0
    by_cases q4 : a < 8
    · exact use 4 4 am_okL4 (by omega) q4
    by_cases q8 : a < 12
    · exact use 8 4 am_okL8 (by omega) q8
    by_cases q12 : a < 16
    · exact use 12 4 am_okL12 (by omega) q12
    by_cases q16 : a < 20
    · exact use 16 4 am_okL16 (by omega) q16
    by_cases q20 : a < 24
    · exact use 20 4 am_okL20 (by omega) q20
    by_cases q24 : a < 28
    · exact use 24 4 am_okL24 (by omega) q24
    by_cases q28 : a < 32
    · exact use 28 4 am_okL28 (by omega) q28
    by_cases q32 : a < 36
    · exact use 32 4 am_okL32 (by omega) q32
    by_cases q36 : a < 40
    · exact use 36 4 am_okL36 (by omega) q36
    by_cases q40 : a < 44
    · exact use 40 4 am_okL40 (by omega) q40
    by_cases q44 : a < 48
    · exact use 44 4 am_okL44 (by omega) q44
    by_cases q48 : a < 52
    · exact use 48 4 am_okL48 (by omega) q48
    by_cases q52 : a < 56
    · exact use 52 4 am_okL52 (by omega) q52
    by_cases q56 : a < 60
    · exact use 56 4 am_okL56 (by omega) q56
    by_cases q60 : a < 64
    · exact use 60 4 am_okL60 (by omega) q60
    by_cases q64 : a < 68
    · exact use 64 4 am_okL64 (by omega) q64
    by_cases q68 : a < 72
    · exact use 68 4 am_okL68 (by omega) q68
    by_cases q72 : a < 76
    · exact use 72 4 am_okL72 (by omega) q72
    by_cases q76 : a < 80
    · exact use 76 4 am_okL76 (by omega) q76
    exact use 80 4 am_okL80 (by omega) (by omega)
def am_Bd (n : Nat) : Prop := ∀ (d y pc : Nat) (ls : am_L) (st : List Value) (h : am_H) (r : Option Value) (h' : am_H), am_run n d y pc ls st h = some (r, h') → y < 240 → ls.length = (am_M y).2.2.1 →
  ∀ {G : am_G} {p : Program} {l : Launch} {e : Env} {R : Room} {s : State} {m : MethodId} {args : Array Value} {below : List Frame} {meth : Method} {c : Code} {n0 s0 : Nat} {Q : State → Prop}, am_Cx G p s m args meth c y n0 → d ≤ R.frames → 48 * d ≤ R.locals → h'.2.1 ≤ R.cells + n0 → h'.2.2 ≤ R.slots + s0 →
  (∀ (pc' : Nat) (i : Instr) (st' : List Value) (Ls : Array Slot) (H : Heap) (locs : List Loc) (cells slots : Nat), am_ret y i st' = some r → decode (am_M y).2.1 pc' = .ok (i, 1) → am_Mm G h' H → va_S (am_A G) s.heap H locs → cells + n0 = h'.2.1 → slots + s0 = h'.2.2 → W p l e R s m args below meth c H locs cells slots Q (F0 m pc' Ls (st'.map (am_cv G)))) →
  am_Wa G p l e R s m args below meth c n0 s0 Q pc ls st h
theorem am_met {n : Nat} (IH : am_Bd n) {G : am_G} {l : Launch} {d x : Nat} {vs : List Value} {h h1 : am_H} {v : Option Value} (hr : am_run n d x 0 (am_ent vs (am_M x).2.2.1) [] h = some (v, h1)) (hx : x < 239) (hsl : (am_sl vs).length ≤ (am_M x).2.2.1) : am_Met G l d x vs h v h1 := by
  have hmo := am_run_mono _ _ _ _ _ _ _ _ hr
  dsimp only at hmo
  have hY := am_oy hx
  unfold am_chY at hY
  simp only [Bool.and_eq_true] at hY
  refine va_MetF (cc := (am_M x).2.1) (maxL := (am_M x).2.2.1) (ret := (am_M x).2.2.2.1) hY.2 rfl ?_
  intro p e s m args below meth c s₁ B hml hv
  obtain ⟨rfl, hMm, hsz, hK, hF, hN⟩ := hv
  have hts := atoms_spec (ws := am_ws x) B.pre
  have hown : s.vm.findClass (am_M x).1.cls = some m.cls := findClass_of_methodNamed B.named
  have hlocks := B.notSynchronized
  have X : am_Cx G p s m (vs.map (am_cv G)).toArray meth c x h.2.1 := ⟨B.exec, B.bytes, hml, hown, fun w hw => hts w (List.mem_cons_of_mem _ hw), hK, hF, hN, hsz, fun q => (name_of_methodNamed B.named B.method).1.trans q⟩
  have hl := lv_entry (vs.map (am_cv G)) (n := (am_M x).2.2.1) (by rw [am_sl_len]; exact hsl)
  rw [lg_entry_eq]
  generalize (lg_sl (vs.map (am_cv G)) ++ List.replicate ((am_M x).2.2.1 - (lg_sl (vs.map (am_cv G))).length) Slot.unset).toArray = Ls at hl ⊢
  have hx0 := B.exec
  have hb0 := B.bytes
  have hr0 := B.returns
  refine IH d x 0 (am_ent vs (am_M x).2.2.1) [] h v h1 hr (by omega) (am_ent_len hsl) (s0 := h.2.2) X (Nat.le_refl _) (Nat.le_refl _) (by show h1.2.1 ≤ (h1.2.1 - h.2.1) + h.2.1; omega) (by show h1.2.2 ≤ (h1.2.2 - h.2.2) + h.2.2; omega) ?_ Ls s.heap [] 0 0 (by rw [am_ent_len hsl]; exact am_entry hl) hMm va_S.rf (Nat.zero_add _) (Nat.zero_add _)
  intro pc' i st' Ls' H locs cells slots hret hdec hM1 hS hc hsl2
  have ec : cells = h1.2.1 - h.2.1 := by omega
  have es : slots = h1.2.2 - h.2.2 := by omega
  subst ec
  subst es
  unfold am_ret at hret
  split at hret
  · rename_i w hrt
    cases hret
    exact W.iret (v := w) hx0 hb0 (hr0.trans hrt) (fun t ht hW => ⟨rfl, by rw [ht]; exact hM1, hS.F ht⟩) hS.2.2 hdec
  · rename_i w hrt
    split at hret
    · rename_i hw
      cases hret
      exact W.zret (v := w) hx0 hb0 (hr0.trans hrt) (by rcases hw with rfl | rfl <;> rfl) (fun t ht hW => ⟨rfl, by rw [ht]; exact hM1, hS.F ht⟩) hS.2.2 hdec
    · cases hret
  · rename_i w hrt
    cases hret
    exact W.lret (v := w) hx0 hb0 (hr0.trans hrt) (fun t ht hW => ⟨rfl, by rw [ht]; exact hM1, hS.F ht⟩) hS.2.2 hdec
  · rename_i hrt
    cases hret
    exact W.vret hx0 hb0 (hr0.trans hrt) (fun t ht hW => ⟨rfl, by rw [ht]; exact hM1, hS.F ht⟩) hS.2.2 hdec
  · cases hret
theorem am_ret_len {y : Nat} {i : Instr} {st : List Value} {r : Option Value} (h : am_ret y i st = some r) : am_len i = 1 := by
  unfold am_ret at h
  split at h <;> first | rfl | cases h
theorem am_body (hg : am_nwgP) : ∀ n, am_Bd n
  | 0 => fun d y pc ls st h r h' hs => by simp [am_run] at hs
  | n + 1 => by
    have IH := am_body hg n
    intro d y pc ls st h r h' hs hy hlen G p l e R s m args below meth c n0 s0 Q X hfr hlo hrc hrs fin
    unfold am_run at hs
    split at hs
    · cases hs
    · rename_i i x z hP
      have hch := am_code_ok hy hP
      split at hs
      · split at hs
        · cases hs
        · rename_i d'
          split at hs
          · cases hs
          · rename_i vs rr ha
            split at hs
            · cases hs
            · rename_i v h1 h1r
              obtain ⟨a1, -, a3, -⟩ := am_arg_ok ha
              have m1 := am_run_mono _ _ _ _ _ _ _ _ h1r
              have m2 := am_run_mono _ _ _ _ _ _ _ _ hs
              dsimp only at m1 m2
              exact am_call X hch hlen ha (am_met IH h1r a1 a3) m1 hfr hlo (by omega) (by omega) (IH _ _ _ _ _ _ _ _ hs hy hlen X hfr hlo hrc hrs fin)
      · split at hs
        · rename_i v hv
          cases hs
          intro Ls H locs cells slots hl hM hS hc hsl
          obtain ⟨hcD, -⟩ := (Bool.and_eq_true _ _).mp hch
          have hd := (am_dec hcD).1 (by rw [am_ret_len hv]; decide)
          rw [am_ret_len hv] at hd
          exact fin pc i st Ls H locs cells slots hv hd hM hS hc hsl
        · split at hs
          · cases hs
          · rename_i pc' ls' st' h1 h1s
            have m1 := am_stp_inv h1s
            have m2 := am_run_mono _ _ _ _ _ _ _ _ hs
            dsimp only at m1 m2
            exact am_step hg X hch hlen h1s hfr hlo (by show h1.2.1 ≤ _; omega) (by show h1.2.2 ≤ _; omega) (IH _ _ _ _ _ _ _ _ hs hy (m1.1.trans hlen) X hfr hlo hrc hrs fin)
