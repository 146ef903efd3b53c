/-! One instruction of the abstract machine is one of the JVM's. -/
def am_Cx (G : am_G) (p : Program) (s : State) (m : MethodId) (args : Array Value) (meth : Method) (c : Code) (y n0 : Nat) : Prop :=
  p.tables.exec = Jvm.exec ∧ c.code = (am_M y).2.1 ∧ c.maxLocals = (am_M y).2.2.1 ∧ s.vm.findClass (am_own y) = some m.cls ∧ (∀ w ∈ am_TB, w.before args s = true) ∧ va_K G.1 am_cl (am_tys G) s ∧ am_F G s s.heap ∧ am_N s ∧ s.heap.size = G.2.2.1 + n0 ∧ ((am_M y).1.name = "<init>" → meth.name = "<init>")
def am_Wa (G : am_G) (p : Program) (l : Launch) (e : Env) (R : Room) (s : State) (m : MethodId) (args : Array Value) (below : List Frame) (meth : Method) (c : Code) (n0 s0 : Nat) (Q : State → Prop) (pc : Nat) (ls : am_L) (st : List Value) (h : am_H) : Prop :=
  ∀ (Ls : Array Slot) (H : Heap) (locs : List Loc) (cells slots : Nat), lv_has Ls ls.length (am_lv G ls) → am_Mm G h H → va_S (am_A G) s.heap H locs → cells + n0 = h.2.1 → slots + s0 = h.2.2 → W p l e R s m args below meth c H locs cells slots Q (F0 m pc Ls (st.map (am_cv G)))
theorem am_vk0 {v : Value} (h : am_vk v = 0) : ∃ x, v = .int x := by cases v <;> simp_all [am_vk]
theorem am_vk1 {v : Value} (h : am_vk v = 1) : ∃ x, v = .long x := by cases v <;> simp_all [am_vk]
theorem am_vk2 {v : Value} (h : am_vk v = 2) : ∃ x, v = .ref x := by cases v <;> simp_all [am_vk]
theorem am_ix_in {i : Int32} {n : Nat} (h : am_ix i n = true) : vp_in i n := by
  simp only [am_ix, Bool.and_eq_true, Bool.not_eq_true', decide_eq_false_iff_not, decide_eq_true_eq] at h
  intro q
  rcases q with q | q
  · exact h.1 q
  · omega
section AMW
variable {G : am_G} {p : Program} {l : Launch} {e : Env} {R : Room} {s : State} {m : MethodId} {args : Array Value} {below : List Frame} {meth : Method} {c : Code} {n0 s0 y : Nat} {Q : State → Prop}
/-- the heap's size is known, for nothing but what is counted has been made -/
theorem am_size {H : Heap} {locs : List Loc} {cells slots : Nat} {g : JFrame} (k : H.size ≤ s.heap.size + cells → W p l e R s m args below meth c H locs cells slots Q g) : W p l e R s m args below meth c H locs cells slots Q g := fun T hT X => k (by rw [← hT]; exact X.same.2.2.1) T hT X
theorem am_lo {h : am_H} {H : Heap} {locs : List Loc} (hP : va_P G.1 am_cl (am_w G h) H) (hS : va_S (am_A G) s.heap H locs) (hz : s.heap.size = G.2.2.1 + n0) : G.2.2.1 + h.2.1 ≤ H.size := by
  by_cases h0 : h.2.1 = 0
  · have := hS.1
    omega
  · have := (hP (h.2.1 - 1) _ (am_w_k G h (by omega))).lt
    have e1 : G.2.2.1 + (h.2.1 - 1) < H.size := this
    omega
theorem am_hA (hz : s.heap.size = G.2.2.1 + n0) : ∀ q, s.heap.size ≤ q → am_A G q := fun q h => by show G.2.2.1 ≤ q; omega
theorem am_Mm_set {h : am_H} {H : Heap} {a : Nat} {c : am_C} (hm : am_mut h a = true) (hM : ∀ k, k < 5 → h.1 k = .inr (.inl (0, (G.2.2.2.2 k).1, (G.2.2.2.2 k).2))) (hP : va_P G.1 am_cl ((am_w G h).set (a - 5) (am_ad G a, am_ce G c)) H) : am_Mm G (am_set h a c) H := by
  refine ⟨by rw [← am_w_set G hm]; exact hP, fun k hk => ?_⟩
  have := (am_mut_iff.mp hm).1
  show (if k = a then c else h.1 k) = _
  rw [if_neg (by omega)]
  exact hM k hk
theorem am_Mm_push {h : am_H} {H : Heap} {c : am_C} {n q : Nat} (hM : ∀ k, k < 5 → h.1 k = .inr (.inl (0, (G.2.2.2.2 k).1, (G.2.2.2.2 k).2))) (hq : q = G.2.2.1 + h.2.1) (hP : va_P G.1 am_cl (am_w G h ++ [(q, am_ce G c)]) H) : am_Mm G (am_push h c n) H := by
  subst hq
  refine ⟨by rw [← am_w_push G h c n]; exact hP, fun k hk => ?_⟩
  show (if k = h.2.1 + 5 then c else h.1 k) = _
  rw [if_neg (by omega)]
  exact hM k hk
/-- where a new cell lies -/
theorem am_where {h : am_H} {H1 : Heap} {q : Nat} {E : va_E} {cells : Nat} (hP : va_P G.1 am_cl (am_w G h ++ [(q, E)]) H1) (hD : va_D (am_A G) (am_w G h ++ [(q, E)])) (hz : s.heap.size = G.2.2.1 + n0) (hc : cells + n0 = h.2.1) (hu : H1.size ≤ s.heap.size + (cells + 1)) : q = G.2.2.1 + h.2.1 := by
  have hl : (am_w G h ++ [(q, E)])[h.2.1]? = some (q, E) := by rw [List.getElem?_append_right (by rw [am_w_len]; exact Nat.le_refl _), am_w_len, Nat.sub_self]; rfl
  have h1 : q < H1.size := (hP _ _ hl).lt
  have h2 : G.2.2.1 ≤ q := hD.2 _ _ hl
  by_cases h3 : q - G.2.2.1 < h.2.1
  · exfalso
    have h4 : (am_w G h ++ [(q, E)])[q - G.2.2.1]? = some (G.2.2.1 + (q - G.2.2.1), am_ce G (h.1 (q - G.2.2.1 + 5))) := by rw [List.getElem?_append_left (by rw [am_w_len]; exact h3), am_w_k G h h3]
    have := hD.1 _ _ _ _ h4 hl (by show G.2.2.1 + (q - G.2.2.1) = q; omega)
    omega
  · omega
end AMW
