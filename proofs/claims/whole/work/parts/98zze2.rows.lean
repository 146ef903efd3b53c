/-! new int[n][k] from the words of the model: the state behind i rows, told by what its heap holds; a row more; the loop; the instruction. -/
/-- behind i of the n rows: a heap that was H, the array of rows at its end, the rows behind that -/
def am_rw (H : Heap) (vm : Vm) (u : Nat) (cA cI : ClassId) (n k i : Nat) (F : State) : Prop :=
  F.heap.size = H.size + 1 + i ∧ (∀ a, a < H.size → F.heap[a]? = H[a]?) ∧ F.heap[H.size]? = some (arrV cA n (fun j => va_rf (if j < i then some (H.size + 1 + j) else none))) ∧
  (∀ j, j < i → F.heap[H.size + 1 + j]? = some (vp_cell cI (k, .inl (fun _ => 0)))) ∧ F.vm = vm ∧ F.slotsUsed = u + n + i * k
theorem am_rw_0 {T : State} {cA cI : ClassId} {n k : Nat} : am_rw T.heap T.vm T.slotsUsed cA cI n k 0 (T.pushCell (arrV cA n (fun _ => .null))) := by
  refine ⟨?_, ?_, ?_, ?_, rfl, ?_⟩
  · rw [State.heap_pushCell, Array.size_push]
  · intro a ha
    rw [State.heap_pushCell, Array.getElem?_push, if_neg (by omega)]
  · rw [State.heap_pushCell, Array.getElem?_push, if_pos rfl]
    congr 2
  · intro j hj
    omega
  · rw [State.slotsUsed_pushCell, arrV_size]; omega
theorem am_rw_1 {H : Heap} {vm : Vm} {u : Nat} {cA cI : ClassId} {n k i : Nat} {F : State} (h : am_rw H vm u cA cI n k i F) :
    am_rw H vm u cA cI n k (i + 1) ((F.pushCell (vp_cell cI (k, .inl (fun _ => 0)))).setCell H.size ((arrV cA n (fun j => va_rf (if j < i then some (H.size + 1 + j) else none))).setSlot i (.ref F.heap.size))) := by
  obtain ⟨h1, h2, h3, h4, h5, h6⟩ := h
  refine ⟨?_, ?_, ?_, ?_, h5, ?_⟩
  · rw [State.heap_setCell, Array.size_setIfInBounds, State.heap_pushCell, Array.size_push, h1]; omega
  · intro a ha
    rw [State.heap_setCell, Array.getElem?_setIfInBounds_ne (by omega), State.heap_pushCell, Array.getElem?_push, if_neg (by omega)]
    exact h2 a ha
  · rw [State.heap_setCell, Array.getElem?_setIfInBounds_self_of_lt (by rw [State.heap_pushCell, Array.size_push]; omega), arrV_store]
    congr 2
    funext j
    unfold updV
    by_cases e : j = i
    · subst e
      rw [if_pos rfl, if_pos (by omega), h1]
      rfl
    · rw [if_neg e]
      dsimp only
      by_cases q : j < i
      · rw [if_pos q, if_pos (by omega)]
      · rw [if_neg q, if_neg (by omega)]
  · intro j hj
    rw [State.heap_setCell, Array.getElem?_setIfInBounds_ne (by omega), State.heap_pushCell, Array.getElem?_push]
    by_cases q : j < i
    · rw [if_neg (by omega)]
      exact h4 j q
    · rw [if_pos (by omega)]
  · rw [State.slotsUsed_setCell, State.slotsUsed_pushCell, h6, vp_cell_i, arrV_size, Nat.succ_mul]; omega
section AMW
variable {p : Program} {l : Launch} {e : Env} {R : Room} {s : State} {m : MethodId} {args : Array Value} {below : List Frame} {meth : Method} {c : Code} {locs : List Loc} {cells slots : Nat}
theorem am_st_1 {H : Heap} {vm : Vm} {u : Nat} {cA cI : ClassId} {n k i : Nat} {F : State} (h : am_rw H vm u cA cI n k i F) (hs : s.heap.size ≤ H.size) (X : Stand p l e R s m args below meth c F locs (cells + 1 + i) (slots + n + i * k)) :
    Stand p l e R s m args below meth c ((F.pushCell (vp_cell cI (k, .inl (fun _ => 0)))).setCell H.size ((arrV cA n (fun j => va_rf (if j < i then some (H.size + 1 + j) else none))).setSlot i (.ref F.heap.size))) locs (cells + 1 + (i + 1)) (slots + n + (i + 1) * k) := by
  have h1 := X.pushed (vp_cell cI (k, .inl (fun _ => 0)))
  have h2 := h1.stored (a := H.size) (cell := arrV cA n (fun j => va_rf (if j < i then some (H.size + 1 + j) else none))) (by rw [State.heap_pushCell, Array.getElem?_push, if_neg (by have := h.1; omega)]; exact h.2.2.1) i (.ref F.heap.size)
  rw [vp_cell_i, arrV_size] at h2
  have e1 : slots + n + (i + 1) * k = slots + n + i * k + k := by rw [Nat.succ_mul]; omega
  rw [e1]
  refine Stand.dropFresh h2 ?_
  intro x hx
  cases List.mem_singleton.mp hx
  exact hs
variable {E : CtlPost} {kA kC : Class} {cA cI cc : ClassId} {kk : Int32}
/-- one row -/
theorem am_mk1 {S : State} {d : Bool} {acts : List Action} (hc : S.vm.classes[cI]? = some kC) (hkC : kC.kind = .array cc .int) (h0 : ¬ kk < 0) (hl : kk.toNatClampNeg ≤ e.platform.arrayLengthLimit) (hm : kk.toNatClampNeg * 4 ≤ e.platform.maxHeapBytes)
    (h1 : S.heap.size < e.platform.maxCells) (h2 : S.slotsUsed + kk.toNatClampNeg ≤ e.platform.maxSlots) {Q : Addr → Pre} (hq : ∀ acts', Q S.heap.size d acts' (S.pushCell (vp_cell cI (kk.toNatClampNeg, .inl (fun _ => 0))))) :
    wp (Op.multianewarray.make cI [kk]) Q E e d acts S := by
  unfold Op.multianewarray.make
  simp only [wp_bind', W.ite, h0, if_false, wp_pure', W.theClass, hc, hkC, Option.some.injEq, exists_eq_left']
  refine W.newArray_of (type := .int) hc hkC (Nat.not_lt.mpr hl) (Nat.not_lt.mpr hm) h1 h2 rfl (fun acts' => ?_)
  have := hq acts'
  rw [vp_cell_i, ← arrV_new] at this
  exact this
/-- the loop over the rows that are left -/
theorem am_mkL {H : Heap} {vm : Vm} {u n : Nat} (hcA : vm.classes[cA]? = some kA) (hkA : kA.kind = .array cI (.array .int)) (hc : vm.classes[cI]? = some kC) (hkC : kC.kind = .array cc .int) (h0 : ¬ kk < 0) (hl : kk.toNatClampNeg ≤ e.platform.arrayLengthLimit) (hm : kk.toNatClampNeg * 4 ≤ e.platform.maxHeapBytes)
    (h1 : H.size + 1 + n ≤ e.platform.maxCells) (h2 : u + n + n * kk.toNatClampNeg ≤ e.platform.maxSlots) (hs : s.heap.size ≤ H.size) :
    ∀ (r i : Nat) (F : State), i + r = n → am_rw H vm u cA cI n kk.toNatClampNeg i F → Stand p l e R s m args below meth c F locs (cells + 1 + i) (slots + n + i * kk.toNatClampNeg) →
      ∃ F' : State, am_rw H vm u cA cI n kk.toNatClampNeg n F' ∧ Stand p l e R s m args below meth c F' locs (cells + 1 + n) (slots + n + n * kk.toNatClampNeg) ∧
        ∀ (E : CtlPost) (f : Nat → PUnit → Sem (ForInStep PUnit)) (_ : ∀ (i : Nat) (Q : ForInStep PUnit → Pre) (d : Bool) (acts : List Action) (S : State), wp (Op.multianewarray.make cI [kk]) (fun a => wp (Jvm.writeLoc H.size i (.ref a)) (fun _ => Q (.yield PUnit.unit)) E e) E e d acts S → wp (f i PUnit.unit) Q E e d acts S) (g : JFrame) (Q : PUnit → Pre) (d : Bool) (acts : List Action), (∀ d' acts', Q PUnit.unit d' acts' (F'.setTop g)) → wp (forIn (List.range' i r) PUnit.unit f) Q E e d acts (F.setTop g) := by
  intro r
  induction r with
  | zero =>
    intro i F hi hw X
    have e1 : i = n := by omega
    subst e1
    refine ⟨F, hw, X, fun E f hf g Q d acts hq => ?_⟩
    rw [List.range'_zero, List.forIn_nil, wp_pure']
    exact hq d acts
  | succ r ih =>
    intro i F hi hw X
    obtain ⟨F', a1, a2, a3⟩ := ih (i + 1) _ (by omega) (am_rw_1 hw) (am_st_1 hw hs X)
    refine ⟨F', a1, a2, fun E f hf g Q d acts hq => ?_⟩
    obtain ⟨b1, b2, b3, b4, b5, b6⟩ := hw
    have hmul : i * kk.toNatClampNeg + kk.toNatClampNeg ≤ n * kk.toNatClampNeg := by
      rw [← Nat.succ_mul]
      exact Nat.mul_le_mul_right _ (by omega)
    rw [List.range'_succ, List.forIn_cons, wp_bind']
    refine hf i _ d acts _ (am_mk1 (kC := kC) (by rw [State.vm_setTop, b5]; exact hc) hkC h0 hl hm (by rw [State.heap_setTop, b1]; omega) (by rw [State.slotsUsed_setTop, b6]; omega) (fun acts' => ?_))
    rw [State.heap_setTop, State.pushCell_setTop, W.writeLoc]
    refine ⟨_, (by rw [State.heap_setTop, State.heap_pushCell, Array.getElem?_push, if_neg (by omega)]; exact b3), (by intro q; cases q), (by rw [arrV_size]; omega), ?_, ?_⟩
    · show State.fitsSlot _ cA .none i (.ref F.heap.size) = true
      simp [State.fitsSlot, State.slotType?, b5, hcA, hkA, fits]
    · rw [State.setCell_setTop]
      exact a3 E f hf g Q _ _ hq
end AMW
theorem am_over {args : Array Value} {s : State} (h : (Jvm.Cond.arrayOver (.array .int)).before args s = true) : ∃ cI cA kA, s.vm.findClass "[I" = some cI ∧ s.vm.findClass "[[I" = some cA ∧ s.vm.classes[cA]? = some kA ∧ kA.kind = .array cI (.array .int) := by
  have h' : (Jvm.Cond.arrayOver (.array .int)).holds args s none s [] = true := h
  simp only [Cond.holds, Cond.value, beq_iff_eq] at h'
  cases hI : s.vm.findClass (FieldType.array .int).toString with
  | none => rw [hI] at h'; cases h'
  | some cI =>
    rw [hI] at h'
    simp only [Option.bind_some, Option.bind_eq_some_iff, Option.map_eq_some_iff] at h'
    obtain ⟨cA, hi, kA, hk, hb⟩ := h'
    have hp := (Array.findIdx?_eq_some_iff_getElem.mp hi).2.1
    rw [(Array.getElem?_eq_some_iff.mp hk).2] at hp
    revert hb hp
    cases hK : kA.kind <;> intro hb hp <;> simp at hb hp
    rename_i comp ty
    exact ⟨cI, cA, kA, hI, hb.2, hk, by rw [hK]; first | rw [hp, hb.1] | (rw [← hp, hb.1])⟩
/-- the instruction -/
theorem am_multi {p : Program} {l : Launch} {e : Env} {R : Room} {s : State} {m : MethodId} {args : Array Value} {below : List Frame} {meth : Method} {c : Code} {T : State} {locs : List Loc} {cells slots : Nat} (X : Stand p l e R s m args below meth c T locs cells slots) (hexec : p.tables.exec = Jvm.exec) {own : String} {index : Nat}
    (hown : s.vm.findClass own = some m.cls) (hlink : (Jvm.Cond.classLink own index "[[I").before args s = true) (hover : (Jvm.Cond.arrayOver (.array .int)).before #[] s = true) (harr : (Jvm.Cond.arrayClass .int).before args s = true)
    {g : JFrame} (hg : g.method = m) (hd : decode c.code g.pc = .ok (.multianewarray index 2, 4)) {n k : Int32} {rest : List Value} (hst : g.stack = .int k :: .int n :: rest) (hn : ¬ n < 0) (hk : ¬ k < 0) (hn1 : n.toNatClampNeg ≤ 1000) (hk1 : k.toNatClampNeg ≤ 1000)
    (hcells : cells + (1 + n.toNatClampNeg) ≤ R.cells) (hslots : slots + (n.toNatClampNeg + n.toNatClampNeg * k.toNatClampNeg) ≤ R.slots) :
    ∃ (cA cI : ClassId) (vm : Vm) (F : State), s.vm.findClass "[[I" = some cA ∧ s.vm.findClass "[I" = some cI ∧ am_rw T.heap vm T.slotsUsed cA cI n.toNatClampNeg k.toNatClampNeg n.toNatClampNeg F ∧
      Stand p l e R s m args below meth c F locs (cells + 1 + n.toNatClampNeg) (slots + n.toNatClampNeg + n.toNatClampNeg * k.toNatClampNeg) ∧
      ∀ target, Steps p.tables e below (F.setTop { g with pc := g.pc + 4, stack := .ref T.heap.size :: rest }) target → Steps p.tables e below (T.setTop g) target := by
  subst hg
  obtain ⟨cI, cA, kA, fI, fA, gA, kindA⟩ := am_over hover
  obtain ⟨cI', kC, cc, fI', gC, kindC⟩ := Cond.arrayClass_spec harr
  have eI : cI' = cI := Option.some.inj (fI'.symm.trans fI)
  subst eI
  obtain ⟨cA', fA', hcl⟩ := Cond.classLink_spec hown hlink e.platform (by rw [X.admits.platform])
  have eA : cA' = cA := Option.some.inj (fA'.symm.trans fA)
  subst eA
  obtain ⟨gv, wv, -⟩ := State.classEntry (e := e) X.warmed hcl
  generalize T.vm.noted g.method.cls index (.cls cA') = vm at gv wv
  obtain ⟨kA', gA', eqA⟩ := wv.alike.2.2 _ _ gA
  obtain ⟨kC', gC', eqC⟩ := wv.alike.2.2 _ _ gC
  have kindA' : kA'.kind = .array cI' (.array .int) := by rw [eqA]; exact kindA
  have kindC' : kC'.kind = .array cc .int := by rw [eqC]; exact kindC
  obtain ⟨r1, r2⟩ := X.roomAbove hcells hslots
  have l1 : e.platform.arrayLengthLimit ≥ 1000 := by rw [Launch.admits_arrayLengthLimit X.admits]; omega
  have l2 : e.platform.maxHeapBytes ≥ 4000 := by rw [Launch.admits_maxHeapBytes X.admits]; omega
  have X0 := (X.noted wv).pushed (arrV cA' n.toNatClampNeg (fun _ => .null))
  rw [arrV_size] at X0
  have w0 : am_rw T.heap vm T.slotsUsed cA' cI' n.toNatClampNeg k.toNatClampNeg 0 ((T.setVm vm).pushCell (arrV cA' n.toNatClampNeg (fun _ => .null))) := am_rw_0 (T := T.setVm vm)
  obtain ⟨F, f1, f2, f3⟩ := am_mkL (e := e) (cA := cA') (cI := cI') (kA := kA') (kC := kC') (cc := cc) (kk := k) (H := T.heap) (vm := vm) (u := T.slotsUsed) (n := n.toNatClampNeg) gA' kindA' gC' kindC' hk (by omega) (by omega) (by omega) (by omega) X.same.2.1 n.toNatClampNeg 0 _ (by omega) w0 (by simpa using X0)
  refine ⟨cA', cI', vm, F, fA, fI, f1, f2, fun target hrest => ?_⟩
  jvm_step X.here [hexec, hd]
  simp only [Op.multianewarray.sem, wp_bind', W.resolveClassAt_links (State.method?_setTop g X.here.top) gv]
  refine (Op.popN_top (s := T.setVm vm) (f := g) (args := [.int n, .int k]) (rest := rest) X.here.top hst).mpr ?_
  simp only [List.mapM_cons, List.mapM_nil, wp_bind', wp_pure']
  unfold Op.multianewarray.make
  simp only [wp_bind', W.ite, hn, if_false, wp_pure', W.theClass, State.vm_setTop, State.vm_setVm, gA', kindA', Option.some.injEq, exists_eq_left']
  refine W.newArray_of (type := .array .int) gA' kindA' (by omega) (by show ¬ _ * 4 > _; omega) (by show T.heap.size < _; omega) (by show T.slotsUsed + _ ≤ _; omega) rfl (fun acts' => ?_)
  have ef : List.find? (fun x => decide (x < 0)) [k] = none := by
    rw [List.find?_cons_of_neg (by simpa using hk), List.find?_nil]
  rw [ef]
  dsimp only
  rw [ite_self, wp_bind', Std.Legacy.Range.forIn_eq_forIn_range', show ([:n.toNatClampNeg] : Std.Legacy.Range).size = n.toNatClampNeg by simp [Std.Legacy.Range.size], State.heap_setTop, State.pushCell_setTop, State.heap_setVm, arrV_new]
  refine f3 _ _ (fun i Q d acts S h => by rw [wp_bind']; exact h) _ _ _ _ (fun d' acts'' => ?_)
  simp only [wp_bind', wp_pure', W.mark, W.pushRef, State.topJava?_setTop' _ f2.here.top, Option.some.injEq, exists_eq_left', State.setTop_setTop]
  intro acts3
  simp [jvm, f2.here.top]
  exact hrest
