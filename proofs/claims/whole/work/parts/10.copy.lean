/-! System.arraycopy of ints; the one new int[n][k] is told as a hypothesis here (am_nwgP), which the last part proves. -/
section AMK
variable {G : am_G} {p : Program} {l : Launch} {e : Env} {R : Room} {s : State} {m : MethodId} {args : Array Value} {below : List Frame} {meth : Method} {c : Code} {n0 s0 y : Nat} {Q : State → Prop}
theorem am_nn (z : Int32) (hz : ¬ z < 0) : z.toInt = (z.toNatClampNeg : Int) := by
  have hz0 : (0 : Int) ≤ z.toInt := by
    have := Int32.not_lt.mp hz
    simpa using Int32.le_iff_toInt_le.mp this
  show z.toInt = ((z.toInt.toNat : Nat) : Int)
  omega
/-- from an array that is never written -/
theorem am_copyT {cc : ByteArray} {pc : Nat} {ls : Array Slot} {rest : List Value} {H : Heap} {locs : List Loc} {cells slots : Nat} {D : va_G} {cl : List vw_C} {A : Nat → Prop} {a : Nat} {tys : List (ClassId × FieldType)} {ws : va_W} (hexec : p.tables.exec = Jvm.exec) (hb : c.code = cc) (hml : c.maxLocals = ls.size) {own : String} {index : Nat} (hown : s.vm.findClass own = some m.cls) (hlink : (Jvm.Cond.methodLink own index arraycopyName).before args s = true) (hnat : (Jvm.Cond.native arraycopyName).before args s = true) (hstat : (Jvm.Cond.static arraycopyName).before args s = true) (hini : (Jvm.Cond.initialized "java/lang/System").before args s = true)
    (hK : va_K D cl tys s) (hP : va_P D cl ws H) (hD : va_D A ws) (hS : va_S A s.heap H locs) {b0 m0 : Nat} {f : Nat → Int32} (hX : va_T .int b0 m0 (fun j => .int (f j)) A s s.heap) (q1 t1 : Nat) {c1 : ClassId} {n1 : Nat} {g : Nat → Int32} (ha1 : ws[q1]? = some (a, .inl (c1, n1, .inl g))) (ht1 : tys[t1]? = some (c1, .int))
    {sp dp n : Int32} (h1 : ¬ sp < 0) (h2 : ¬ dp < 0) (h3 : ¬ n < 0) (h4 : sp.toNatClampNeg + n.toNatClampNeg ≤ m0) (h5 : dp.toNatClampNeg + n.toNatClampNeg ≤ n1)
    (hframes : 1 ≤ R.frames) (hlocals : (rest.map fun v => v.category).sum + (nativeFrameWords "java/lang/System" "arraycopy" 5 + 11) ≤ R.locals) (hdg : decode cc pc = .ok (.invokestatic index, 3))
    (kk : ∀ (H1 : Heap) (locs1 : List Loc), va_P D cl (ws.set q1 (a, .inl (c1, n1, .inl (va_cpy f g sp.toNatClampNeg dp.toNatClampNeg n.toNatClampNeg)))) H1 → va_D A (ws.set q1 (a, .inl (c1, n1, .inl (va_cpy f g sp.toNatClampNeg dp.toNatClampNeg n.toNatClampNeg)))) → va_S A s.heap H1 locs1 → W p l e R s m args below meth c H1 locs1 cells slots Q (F0 m (pc + 3) ls rest)) : W p l e R s m args below meth c H locs cells slots Q (F0 m pc ls (.int n :: .int dp :: .ref a :: .int sp :: .ref b0 :: rest)) := by
  intro T hT X
  obtain ⟨scr, hs1, hs2, hs3, hs4, -, hs5, hs7⟩ := hX
  have hc0 : H[b0]? = some scr := by rw [hS.2.1 b0 (Array.getElem?_eq_some_iff.mp hs1).1 hs7]; exact hs1
  have hc1 : H[a]? = some (vp_cell c1 (n1, .inl g)) := hP q1 _ ha1
  obtain ⟨hs6, k0, hk0, cm0, hkk0⟩ := hs2
  obtain ⟨-, k1, hk1, cm1, hkk1⟩ := (hK.2 t1 _ ht1).1 n1 (fun j => .int (g j))
  obtain ⟨vm', X', step⟩ := X.arraycopy hexec hown hlink hnat hstat hini (src := b0) (dst := a) (cs := scr) (cd := vp_cell c1 (n1, .inl g)) (srcPos := sp) (destPos := dp) (n := n) (by rw [hT]; exact hc0) (by rw [hT]; exact hc1)
    hs6 (fun _ h => by cases h) hs3 (fun h => by cases h) hk0 hk1 hkk0 hkk1 (by simp [refKind]) h1 h2 h3
    (by rw [am_nn sp h1, am_nn n h3]; omega)
    (by rw [am_nn dp h2, am_nn n h3]; show ¬ _ > ((arrV c1 n1 (fun j => .int (g j))).slots.size : Int); rw [arrV_size]; omega)
    (fun vm₁ _ i hi => by
      have e : scr.slots.getD (sp.toNatClampNeg + i) .null = .int (f (sp.toNatClampNeg + i)) := by
        rw [Array.getD_eq_getD_getElem?, hs5 _ (by omega)]
        rfl
      rw [e]
      exact ⟨rfl, trivial⟩)
    (g := F0 m pc ls (.int n :: .int dp :: .ref a :: .int sp :: .ref b0 :: rest)) rfl (by rw [hml]) (rest := rest) rfl (by rw [hb]; exact hdg) hframes (by show 2 * 0 + _ + _ ≤ _; omega)
  have e1 : copied scr (vp_cell c1 (n1, .inl g)) sp dp n = vp_cell c1 (n1, .inl (va_cpy f g sp.toNatClampNeg dp.toNatClampNeg n.toNatClampNeg)) := va_copiedX (fun z => .int z) scr c1 f g hs5 h4
  rw [e1] at X' step
  have hl : a < H.size := (Array.getElem?_eq_some_iff.mp hc1).1
  have oq : ∀ q : Nat, q ≠ a → (H.setIfInBounds a (vp_cell c1 (n1, .inl (va_cpy f g sp.toNatClampNeg dp.toNatClampNeg n.toNatClampNeg))))[q]? = H[q]? := fun q hq => by simp [Array.getElem?_setIfInBounds, Ne.symm hq]
  obtain ⟨t, a1, b1⟩ := kk _ _ (hP.set hD ha1 (show (H.setIfInBounds a _)[a]? = some _ by simp [Array.getElem?_setIfInBounds, hl]) oq) (hD.set ha1) ⟨by simp; exact hS.1, fun q g1 g2 => by
      rw [oq q (fun e => g2 (by rw [e]; exact hD.2 q1 _ ha1))]
      exact hS.2.1 q g1 g2, fun q hq => by
      rcases List.mem_append.mp hq with h | h
      · exact hS.2.2 q h
      · obtain ⟨z, -, hz⟩ := List.mem_map.mp h
        rw [← hz]
        exact hD.2 q1 _ ha1⟩ _ (by rw [← hT]; rfl) X'
  exact ⟨t, step t a1, b1⟩
theorem am_cats_map (G : am_G) (r : List Value) : ((r.map (am_cv G)).map fun v => v.category).sum = am_cats r := by
  unfold am_cats
  rw [List.map_map]
  congr 1
  apply List.map_congr_left
  intro v _
  exact am_cv_cat G v
theorem am_i_cpy (X : am_Cx G p s m args meth c y n0) {pc z idx d : Nat} (hd : decode (am_M y).2.1 pc = .ok (.invokestatic idx, 3)) (hch : am_at z (.methodLink (am_own y) idx arraycopyName) = true) (hw : (Jvm.Cond.native arraycopyName).before args s = true ∧ (Jvm.Cond.static arraycopyName).before args s = true ∧ (Jvm.Cond.initialized "java/lang/System").before args s = true) {ls : am_L} {st : List Value} {h : am_H} {r : am_R} (hlen : ls.length = (am_M y).2.2.1) (hs : am_cpy (pc + 3) ls st h = some r) (hfr : d ≤ R.frames) (hlo : 48 * d ≤ R.locals) (h1d : 1 ≤ d) (k : am_Wa G p l e R s m args below meth c n0 s0 Q r.1 r.2.1 r.2.2.1 r.2.2.2) : am_Wa G p l e R s m args below meth c n0 s0 Q pc ls st h := by
  obtain ⟨hx, hb, hml, hown, hts, hK, hF, hN, hz, hin⟩ := X
  unfold am_cpy at hs
  split at hs
  · rename_i n dp b sp a r0
    split at hs
    · rename_i m0 f n1 g hca hcb
      split at hs
      · rename_i hcond
        cases hs
        obtain ⟨⟨h1, h2, h3⟩, ⟨h4, h5⟩, hia, hmb, hcat⟩ := hcond
        intro Ls H locs cells slots hl hM hS hc hsl
        have heb := am_w_at G hmb
        rw [hcb] at heb
        have hcat' : ((r0.map (am_cv G)).map fun v => v.category).sum + (nativeFrameWords "java/lang/System" "arraycopy" 5 + 11) ≤ R.locals := by
          rw [am_cats_map]
          have : nativeFrameWords "java/lang/System" "arraycopy" 5 = 7 := by decide
          omega
        have hsz : c.maxLocals = Ls.size := by rw [hml, ← hlen]; exact hl.1.symm
        have kk : ∀ (H1 : Heap) (locs1 : List Loc), va_P G.1 am_cl ((am_w G h).set (b - 5) (am_ad G b, .inl (G.2.2.2.1 0, n1, .inl (va_cpy f g sp.toNatClampNeg dp.toNatClampNeg n.toNatClampNeg)))) H1 → va_D (am_A G) ((am_w G h).set (b - 5) (am_ad G b, .inl (G.2.2.2.1 0, n1, .inl (va_cpy f g sp.toNatClampNeg dp.toNatClampNeg n.toNatClampNeg)))) → va_S (am_A G) s.heap H1 locs1 → W p l e R s m args below meth c H1 locs1 cells slots Q (F0 m (pc + 3) Ls (r0.map (am_cv G))) := fun H1 locs1 hP1 _ hS1 => k Ls H1 locs1 cells slots hl (am_Mm_set hmb hM.2 hP1) hS1 hc hsl
        by_cases h5a : a < 5
        · obtain ⟨e1, e2, e3⟩ := am_stat hM h5a hca
          have hT := hF.1 a h5a
          rw [← e2, ← e3] at hT
          have := am_copyT (own := am_own y) (index := idx) (rest := r0.map (am_cv G)) hx hb hsz hown (hts _ (am_qz_tb hch)) hw.1 hw.2.1 hw.2.2 hK hM.1 (am_D G h) hS hT (b - 5) 0 heb rfl h1 h2 h3 h4 h5 (by omega) hcat' hd kk
          show W p l e R s m args below meth c H locs cells slots Q (F0 m pc Ls (.int n :: .int dp :: .ref (am_ad G b) :: .int sp :: .ref (am_ad G a) :: r0.map (am_cv G)))
          rw [am_ad_s h5a]
          exact this
        · have hma := am_mut_of hia h5a
          have hea := am_w_at G hma
          rw [hca] at hea
          exact va_copyi (own := am_own y) (index := idx) (ty := .int) (rest := r0.map (am_cv G)) hx hb hsz hown (hts _ (am_qz_tb hch)) hw.1 hw.2.1 hw.2.2 hK hM.1 (am_D G h) hS (a - 5) (b - 5) 0 0 hea heb rfl rfl rfl h1 h2 h3 h4 h5 (fun i hi => rfl) (by omega) hcat' hd kk
      · cases hs
    · cases hs
  · cases hs
end AMK
/-- new int[n][k] -/
def am_nwgP : Prop := ∀ {G : am_G} {p : Program} {l : Launch} {e : Env} {R : Room} {s : State} {m : MethodId} {args : Array Value} {below : List Frame} {meth : Method} {c : Code} {n0 s0 y : Nat} {Q : State → Prop} (_ : am_Cx G p s m args meth c y n0) (_ : (Jvm.Cond.arrayClass .int).before args s = true ∧ (Jvm.Cond.arrayClass .boolean).before args s = true) {pc idx z : Nat} (_ : decode (am_M y).2.1 pc = .ok (.multianewarray idx 2, 4)) (_ : am_at z (.classLink (am_own y) idx "[[I") = true) {ls : am_L} {st : List Value} {h : am_H} {r : am_R} (_ : am_nwg (pc + 4) ls st h = some r) (_ : r.2.2.2.2.1 ≤ R.cells + n0) (_ : r.2.2.2.2.2 ≤ R.slots + s0) (_ : am_Wa G p l e R s m args below meth c n0 s0 Q r.1 r.2.1 r.2.2.1 r.2.2.2), am_Wa G p l e R s m args below meth c n0 s0 Q pc ls st h
