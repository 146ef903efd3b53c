/-! From the Statement's start to the abstract machine's. -/
def am_stc (L : Nat) (xs : Nat → Int32) : Nat → Nat × (Nat → Int32) := fun k => match k with
  | 0 => (L, xs)
  | 1 => (6, fun j => ([0, 1, 2, 3, 4, 5] : List Int32).getD j 0)
  | 2 => (6, fun j => ([-1000000, 0, 1, 1, 0, 4] : List Int32).getD j 0)
  | 3 => (6, fun j => ([10, 11, 12, -1000000, 13, 14] : List Int32).getD j 0)
  | _ => (6, fun j => ([20, 21, 24, 22, 23, -1000000] : List Int32).getD j 0)
def am_h0 (L : Nat) (xs : Nat → Int32) : am_H := (fun k => .inr (.inl (0, (am_stc L xs k).1, (am_stc L xs k).2)), 0, 0)
/-- what is left to be shown, of the abstract machine alone -/
def am_Claim : Prop := ∀ (L : Nat) (xs : Nat → Int32), L ≤ 3072 → ∃ (n : Nat) (h' : am_H), am_run n 40 239 0 (am_ent [.ref 0] 4) [] (am_h0 L xs) = some (some (.int 1), h') ∧ h'.2.1 ≤ 600000 ∧ h'.2.2 ≤ 7302250
theorem am_tb_law {w : Jvm.Cond} {args : Array Value} {s : State} (hts : ∀ w ∈ lw_tbl, w.before args s = true) : ∀ w ∈ am_TB, w.before args s = true := fun w hw => hts w (List.mem_filter.mp hw).1
section AML
variable {s : State} {b : Nat} {A : Nat → Prop}
theorem am_tof (C f : String) (v : List Int32) (hv : v.length = 6) (hs : ∀ w ∈ [Jvm.Cond.arrayOf (.static C f "[I") .int, .eq (.length (.static C f "[I")) (.int 6)] ++ (List.range 6).map (fun j => Jvm.Cond.eq (.elem (.static C f "[I") (.int (Int32.ofNat j))) (.int (v.getD j 0))), w.before #[Value.ref b] s = true) (hl : (Jvm.Cond.laysStatic C f "[I").before #[Value.ref b] s = true) (hini : (Jvm.Cond.initialized C).before #[Value.ref b] s = true) (hA : ∀ a : Nat, a < s.heap.size → ¬ A a) :
    ∃ t : Nat, va_T .int t 6 (fun j => .int (v.getD j 0)) A s s.heap ∧ va_Z C f "[I" (.ref t) A s s.heap := by
  obtain ⟨t, h1, h2⟩ := va_Tof (N := 6) (f := fun j => .int (v.getD j 0)) (A := A) (by decide) (hs (.arrayOf (.static C f "[I") .int) (by simp)) (va_eqt (hs (.eq (.length (.static C f "[I")) (.int 6)) (by simp))) (fun j hj => va_eqt (hs (.eq (.elem (.static C f "[I") (.int (Int32.ofNat j))) (.int (v.getD j 0))) (List.mem_append_right _ (List.mem_map.mpr ⟨j, List.mem_range.mpr hj, rfl⟩)))) hA
  exact ⟨t, h2, va_Zref hl hini h1 hA⟩
end AML
theorem am_AOA_spec {s : State} {args : Array Value} (h : (Jvm.Cond.arrayOver (.array .int)).before args s = true) : ∃ (cc : ClassId) (k : Class) (comp : ClassId), s.vm.findClass ("[" ++ (FieldType.array .int).toString) = some cc ∧ s.vm.classes[cc]? = some k ∧ k.kind = .array comp (.array .int) := by
  simp only [Cond.before, Cond.holds, Cond.value, beq_iff_eq] at h
  cases hc : s.vm.findClass (FieldType.array .int).toString with
  | none => simp [hc] at h
  | some comp =>
    simp only [hc, Option.bind_some, Option.bind_eq_some_iff, Option.map_eq_some_iff] at h
    obtain ⟨cc, hi, k, hk, hb⟩ := h
    cases hkind : k.kind with
    | array cm ty =>
      rw [hkind] at hb
      simp only [Bool.and_eq_true, decide_eq_true_eq] at hb
      exact ⟨cc, k, cm, hb.2, hk, by rw [hkind, hb.1]⟩
    | _ => rw [hkind] at hb; simp at hb
set_option maxHeartbeats 4000000 in
set_option maxRecDepth 100000 in
theorem am_start (hg : am_nwgP) (hcl : am_Claim) {p : Program} {e : Env} {s : State} {m : MethodId} {below : List Frame} {meth : Method} {c : Code} (l : Launch) {b L : Nat} {xs : Nat → Int32} (hL : L ≤ 3072) (C0 : lw_At p s m meth c b L xs) : W p l e room_1 s m #[Value.ref b] below meth c s.heap [] 0 0 (lw_Z below #[Value.ref b] s) (entryFrame m ([Value.ref b] : List Value).toArray 4) := by
  obtain ⟨hx, hb, hr, hml, hown, hts, hX, hbl, hlocks, hgv⟩ := C0
  have hTB := am_tb_law (w := .initialized "") hts
  have hfl := flat_of_before _ hgv
  have hA : ∀ a : Nat, a < s.heap.size → ¬ (fun q : Nat => s.heap.size ≤ q) a := fun a h => Nat.not_le.mpr h
  have hcls : ∀ k : Nat, ∃ pr : ClassId × (Nat → Nat), ∀ q : vw_C, am_cl[k]? = some q → u_Kn s q.1 q.2.1 q.2.2 pr.1 pr.2 := by
    intro k
    by_cases hk : k < 12
    · obtain ⟨q, hq⟩ : ∃ q, am_cl[k]? = some q := ⟨_, List.getElem?_eq_getElem (show k < 12 from hk)⟩
      obtain ⟨c1, -, -, c4, -⟩ := am_cf _ _ hq
      obtain ⟨cC, iS, h1⟩ := u_known (C := q.1) (T := q.2.1) (N := q.2.2) hTB c1 (hTB _ c4)
      exact ⟨(cC, iS), fun q' hq' => by rw [hq] at hq'; cases hq'; exact h1⟩
    · exact ⟨(0, fun _ => 0), fun q hq => by rw [List.getElem?_eq_none (by show 12 ≤ k; omega)] at hq; cases hq⟩
  obtain ⟨i0, k0, m0, a1, a2, a3⟩ := Cond.arrayClass_spec (hTB _ am_g4)
  obtain ⟨i1, k1, m1, b1, b2, b3⟩ := Cond.arrayClass_spec (hTB _ am_g5)
  have hao := hts (.arrayOver (.object "WheelRide$Wheel")) (List.mem_of_getElem? (i := 229) (by decide +kernel))
  have haa := hts (.arrayOver (.array .int)) (List.mem_of_getElem? (i := 106) (by decide +kernel))
  obtain ⟨m2, i2, k2, c1, -, c3, c4, c5⟩ := Cond.arrayOver_spec hao
  obtain ⟨i3, k3, m3, d1, d2, d3⟩ := am_AOA_spec haa
  obtain ⟨t1, u1, v1⟩ := am_tof (A := fun q : Nat => s.heap.size ≤ q) "WheelRide" "BY_NUMBERS" [0, 1, 2, 3, 4, 5] rfl (fun w hw => hfl w (by revert w; decide +kernel)) (hts _ (List.mem_of_getElem? (i := 575) (by decide +kernel))) (hts _ (List.mem_of_getElem? (i := 75) (by decide +kernel))) hA
  obtain ⟨t2, u2, v2⟩ := am_tof (A := fun q : Nat => s.heap.size ≤ q) "WheelRide$Asks" "KIND_ABOVE" [-1000000, 0, 1, 1, 0, 4] rfl (fun w hw => hfl w (by revert w; decide +kernel)) (hts _ (List.mem_of_getElem? (i := 946) (by decide +kernel))) (hts _ (List.mem_of_getElem? (i := 85) (by decide +kernel))) hA
  obtain ⟨t3, u3, v3⟩ := am_tof (A := fun q : Nat => s.heap.size ≤ q) "WheelRide$Asks" "SIZE_BODIES" [10, 11, 12, -1000000, 13, 14] rfl (fun w hw => hfl w (by revert w; decide +kernel)) (hts _ (List.mem_of_getElem? (i := 960) (by decide +kernel))) (hts _ (List.mem_of_getElem? (i := 85) (by decide +kernel))) hA
  obtain ⟨t4, u4, v4⟩ := am_tof (A := fun q : Nat => s.heap.size ≤ q) "WheelRide$Asks" "MARK_BODIES" [20, 21, 24, 22, 23, -1000000] rfl (fun w hw => hfl w (by revert w; decide +kernel)) (hts _ (List.mem_of_getElem? (i := 962) (by decide +kernel))) (hts _ (List.mem_of_getElem? (i := 85) (by decide +kernel))) hA
  obtain ⟨G, hG⟩ : ∃ G : am_G, G = ((fun k => (Classical.choose (hcls k)).1, fun k => (Classical.choose (hcls k)).2), (fun k => match k with | 0 => b | 1 => t1 | 2 => t2 | 3 => t3 | _ => t4), s.heap.size, (fun k => match k with | 0 => i0 | 1 => i1 | 2 => i2 | _ => i3), am_stc L xs) := ⟨_, rfl⟩
  have g1 : G.1 = (fun k => (Classical.choose (hcls k)).1, fun k => (Classical.choose (hcls k)).2) := by rw [hG]
  have g2 : G.2.1 = (fun k => match k with | 0 => b | 1 => t1 | 2 => t2 | 3 => t3 | _ => t4) := by rw [hG]
  have g3 : G.2.2.1 = s.heap.size := by rw [hG]
  have g4 : G.2.2.2.1 = (fun k => match k with | 0 => i0 | 1 => i1 | 2 => i2 | _ => i3) := by rw [hG]
  have g5 : G.2.2.2.2 = am_stc L xs := by rw [hG]
  clear hG
  have hAe : am_A G = fun q : Nat => s.heap.size ≤ q := by unfold am_A; rw [g3]
  have hK : va_K G.1 am_cl (am_tys G) s := by
    refine ⟨fun k q hq => ?_, fun k q hq => ?_⟩
    · rw [g1]
      exact Classical.choose_spec (hcls k) q hq
    · unfold am_tys at hq
      rw [g4] at hq
      match k, hq with
      | 0, hq => cases hq; exact ⟨fun N z => ⟨(fun k h => by cases h), k0, a2, m0, a3⟩, a1⟩
      | 1, hq => cases hq; exact ⟨fun N z => ⟨(fun k h => by cases h), k1, b2, m1, b3⟩, b1⟩
      | 2, hq => cases hq; exact ⟨fun N z => ⟨(fun k h => by cases h), k2, c3, m2, c4⟩, k2, m2, c3, c4, c1, c5⟩
      | 3, hq => cases hq; exact ⟨fun N z => ⟨(fun k h => by cases h), k3, d2, m3, d3⟩, d1⟩
      | k + 4, hq => simp at hq
  have hF : am_F G s s.heap := by
    refine ⟨fun k hk => ?_, fun k h1 h2 => ?_⟩
    · rw [g2, g5, hAe]
      match k, hk with
      | 0, _ =>
        obtain ⟨scr, x1, x2, x3, x4, x5⟩ := hX
        exact ⟨scr, x1, x2, x3, Nat.le_of_eq x4.symm, by rw [x4]; rfl, x5, hA b hbl⟩
      | 1, _ => exact u1
      | 2, _ => exact u2
      | 3, _ => exact u3
      | 4, _ => exact u4
      | k + 5, hk => omega
    · rw [g2, hAe]
      match k, h1, h2 with
      | 1, _, _ => exact v1
      | 2, _, _ => exact v2
      | 3, _, _ => exact v3
      | 4, _, _ => exact v4
  have hN : am_N s := ⟨fun z q hq hn => va_Nw.of (am_isN_tab hn) (hts _ (am_QZ hq)), va_AO.of hao, haa⟩
  obtain ⟨n, h', hrun, hcells, hslots⟩ := hcl L xs hL
  have X : am_Cx G p s m #[Value.ref b] meth c 239 0 := ⟨hx, hb, hml, hown, hTB, hK, hF, hN, by rw [g3]; rfl, fun h => by exact absurd h (by decide +kernel)⟩
  have hl := lv_entry ([.ref b]) (n := 4) (Nat.le_of_ble_eq_true rfl)
  rw [lg_entry_eq]
  generalize (lg_sl ([.ref b]) ++ List.replicate (4 - (lg_sl ([.ref b])).length) Slot.unset).toArray = Ls at hl ⊢
  have hcv : am_cv G (.ref 0) = .ref b := by
    show Value.ref (am_ad G 0) = _
    rw [am_ad_s (by omega), g2]
    rfl
  refine am_body hg n 40 239 0 (am_ent [.ref 0] 4) [] (am_h0 L xs) _ h' hrun (by omega) rfl (s0 := 0) X (Nat.le_of_ble_eq_true rfl) (Nat.le_of_ble_eq_true rfl) hcells hslots ?_ Ls s.heap [] 0 0 ?_ ?_ va_S.rf rfl rfl
  · intro pc' i st' Ls' H locs cells slots hret hdec hM1 hS hc hsl
    have hi : i = .ireturn ∧ st' = [.int 1] := by
      unfold am_ret at hret
      split at hret
      · cases hret; exact ⟨rfl, rfl⟩
      · split at hret
        · cases hret; exact ⟨rfl, rfl⟩
        · cases hret
      · cases hret
      · cases hret
      · cases hret
    obtain ⟨rfl, rfl⟩ := hi
    have hlq : ∀ q ∈ locs, s.heap.size ≤ q.base := fun q hq => by have := hS.2.2 q hq; rw [hAe] at this; exact this
    refine va_forget hlq (W.widen (k := 600000) (n := 7302250) (by omega) (by omega) ?_)
    exact lw_ret hx hb hr hlocks hdec
  · refine am_entry ?_
    show lv_has Ls 4 (lv_args 0 [am_cv G (.ref 0)])
    rw [hcv]
    exact hl
  · refine ⟨fun k q hq => ?_, fun k hk => ?_⟩
    · obtain ⟨h1, -⟩ := am_w_some hq
      exact absurd h1 (Nat.not_lt_zero _)
    · rw [g5]
      rfl
