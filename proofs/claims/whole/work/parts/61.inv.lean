/-! Steps, orders: as functions of a wheel; the invariant of the two objects. -/
def w_it (rk : Nat → Int32) (g n : Nat) : Nat → (Nat → Nat → Int32) → Nat → Nat → Int32
  | 0, W => W
  | k + 1, W => w_it rk g n k (w_ms W rk g n)
def w_sn (rk : Nat → Int32) (g n : Nat) : Nat → (Nat → Nat → Int32) → Int32 → Int32
  | 0, _, a => a
  | k + 1, W, a => w_sn rk g n k (w_ms W rk g n) (if w_mb W rk g n = true then a else a + 1)
def w_bc : Nat → Nat → Int32 → Int32 → Int32
  | 0, _, _, a => a
  | k + 1, j, x, a => w_bc k (j + 1) x (a + (x >>> (nI j &&& 31) &&& 1))
/-- how many of the six bits -/
def w_bits (x : Int32) : Int32 := w_bc 6 0 x 0
def oc_fst (W : Nat → Nat → Int32) (rk : Nat → Int32) : Nat → Nat → Bool
  | 0, _ => true
  | k + 1, i => if rk (i + 1) < rk i ∧ (¬ W 5 (rk i).toNatClampNeg = 0 ∨ ¬ W 5 (rk (i + 1)).toNatClampNeg = 0) then false else oc_fst W rk k (i + 1)
def oc_off (W : Nat → Nat → Int32) (g n m : Nat) (rk : Nat → Int32) : Int32 := w_bits (w_wh (w_it rk g n m W) 2 n 0 0)
def oc_rid (W : Nat → Nat → Int32) (g n m : Nat) (rk : Nat → Int32) : Int32 := w_sum (w_it rk g n m W 7) n 0 0
def oc_try (W : Nat → Nat → Int32) (g n m : Nat) (rk : Nat → Int32) (b : Int32 × Int32 × (Nat → Int32)) : Int32 × Int32 × (Nat → Int32) :=
  if b.1 < oc_off W g n m rk ∨ (oc_off W g n m rk = b.1 ∧ b.2.1 < oc_rid W g n m rk) then (oc_off W g n m rk, oc_rid W g n m rk, va_cpy rk b.2.2 0 0 6) else b
/-- the orders of some numbers, by numbers -/
def pms : Nat → List Nat → List (List Nat)
  | 0, _ => [[]]
  | k + 1, l => (l.map fun x => (pms k (l.erase x)).map fun r => x :: r).flatten
def pmt (n : Nat) : List (List Nat) := (pms n (List.range n)).map fun l => l ++ (List.range 6).drop n
def lf (l : List Nat) : Nat → Int32 := fun j => nI (l.getD j 0)
/-- the orders one after the other -/
def oc_f (W : Nat → Nat → Int32) (g n m : Nat) : List (List Nat) → Int32 × Int32 × (Nat → Int32) → Int32 × Int32 × (Nat → Int32)
  | [], b => b
  | l :: r, b => oc_f W g n m r (oc_try W g n m (lf l) b)
def oc_res (W : Nat → Nat → Int32) (g n m : Nat) : Int32 × Int32 × (Nat → Int32) := oc_f W g n m (pmt n) (-1, -1, fun _ => 0)
/-- a model's view of a wheel: parties, gondolas, sorts, weights, rounds, the state's row -/
def mkV (n0 g0 : Int32) (so we ro st : Nat → Int32) : Nat → Nat → Int32 := fun a => if a = 285 then (fun i => if i = 7 then n0 else if i = 8 then g0 else 0) else if a = 290 then so else if a = 291 then we else if a = 292 then ro else if a = 293 then st else fun _ => 0
/-- a wheel whose numbers are in their ranges -/
def wG (W : Nat → Nat → Int32) (n : Nat) : Prop := (∀ p, p < n → ∃ k, 1 ≤ k ∧ k ≤ 5 ∧ W 2 p = nI k) ∧ (∀ p, p < n → ∃ r, r ≤ 99 ∧ W 7 p = nI r) ∧ ∀ i, i < 12 → ∃ b, b ≤ 9 ∧ W 1 i = nI b
/-- the rows -/
def JR (S : Nat → Nat → Int32) : Prop := (∀ r, r < 8 → S 16 r = S 286 r ∧ S 17 r = S 287 r ∧ (S 17 r = -1 ∨ ∃ n, n ≤ 40 ∧ S 17 r = nI n)) ∧ ∀ r i, r < 8 → i < 40 → S (8 + 1 * r) i = S 288 (40 * r + i)
/-- the tape -/
def JT (S : Nat → Nat → Int32) : Prop := (∃ t, t ≤ 100 ∧ S 18 2 = nI t ∧ S 285 5 = nI t) ∧ ∀ i, i < 100 → S 19 i = S 289 i
/-- what was found, the latest fault -/
def JF (S : Nat → Nat → Int32) : Prop := S 5 12 = S 285 3 ∧ S 5 11 = S 285 6
/-- the wheel: there is none (g = 0), or it is as the model's -/
def JW (S : Nat → Nat → Int32) (g n : Nat) : Prop := (n = 0 ∧ g = 0 ∧ S 20 4 = 0 ∧ S 20 0 = 0 ∧ S 20 3 = 0 ∧ S 285 7 = 0 ∧ S 285 8 = 0 ∧ S 293 0 = 0) ∨ (1 ≤ n ∧ mR (am_sub S 20) S 293 g n ∧ wG (am_sub S 20) n)
def JK (S : Nat → Nat → Int32) : Prop := ∀ j, j < 6 → S 297 j = nI j
/-- the acts: m the next place in the ring, k how many -/
def JA (S : Nat → Nat → Int32) (g n m k : Nat) : Prop := m < 24 ∧ k ≤ 24 ∧ S 38 1 = nI m ∧ S 38 2 = nI k ∧ S 285 14 = nI k ∧ (n = 0 → k = 0) ∧
  ∀ j, j < k → mR (am_sub S (40 + 9 * ((m + 23 - j) % 24))) (mkV (S 285 7) (S 285 8) (S 290) (S 291) (S 292) (fun i => S 294 (39 * (k - 1 - j) + i))) 293 g n ∧ wG (am_sub S (40 + 9 * ((m + 23 - j) % 24))) n
def JI1 (S : Nat → Nat → Int32) (k : Nat) : Prop := (S 296 k = 0 ∧ S (258 + 9 * k) 4 = 0) ∨ (S 296 k = 1 ∧ ∃ g n, 1 ≤ n ∧
  mR (am_sub S (258 + 9 * k)) (mkV (S 295 (59 * k)) (S 295 (59 * k + 1)) (fun i => S 295 (59 * k + 2 + i)) (fun i => S 295 (59 * k + 8 + i)) (fun i => S 295 (59 * k + 14 + i)) (fun i => S 295 (59 * k + 20 + i))) 293 g n ∧ wG (am_sub S (258 + 9 * k)) n)
/-- the images -/
def JI (S : Nat → Nat → Int32) : Prop := ∀ k, k < 2 → JI1 S k
/-- the order that was found last -/
def JP (S : Nat → Nat → Int32) (g n : Nat) : Prop := S 277 3 = 0 ∨ ∃ m, 1 ≤ m ∧ m ≤ 40 ∧ S 277 3 = nI m ∧ S 277 6 = (oc_res (am_sub S 20) g n m).1 ∧ ∀ k, k < 6 → S 279 k = (oc_res (am_sub S 20) g n m).2.2 k
/-- the trace -/
def JQ (S : Nat → Nat → Int32) : Prop := (∃ t, t ≤ 16 ∧ S 283 2 = nI t ∧ S 285 20 = nI t) ∧ ∀ i, i < 16 → S 284 i = S 299 i
/-- nothing lies beyond the places of wheels -/
def JC (S : Nat → Nat → Int32) : Prop := ∀ w, am_isW w → w_cl (am_sub S w)
def JJ (S : Nat → Nat → Int32) : Prop := ∃ g n m k, JR S ∧ JT S ∧ JF S ∧ JW S g n ∧ JK S ∧ JA S g n m k ∧ JI S ∧ JP S g n ∧ JQ S ∧ JC S
/-- both are called, one after the other: the same answer, and all is again as it must be -/
def BO (X : Nat × (Nat → Int32)) (y1 y2 : Nat) (vs : List Value) (S : Nat → Nat → Int32) (L : Nat → Int64) : Prop :=
  am_mt 39 y1 (.ref 5 :: vs) (am_hh X S L) (fun r h => ∃ v S1 L1, r = some v ∧ h = am_hh X S1 L1 ∧ am_mt 39 y2 (.ref 285 :: vs) h (fun r2 h2 => r2 = some v ∧ ∃ S2 L2, h2 = am_hh X S2 L2 ∧ JJ S2))
theorem bo_of {X : Nat × (Nat → Int32)} {y1 y2 : Nat} {vs : List Value} {S S1 S2 : Nat → Nat → Int32} {L L1 L2 : Nat → Int64} {v : Value} (h1 : am_mt 39 y1 (.ref 5 :: vs) (am_hh X S L) (fun r h => r = some v ∧ h = am_hh X S1 L1)) (h2 : am_mt 39 y2 (.ref 285 :: vs) (am_hh X S1 L1) (fun r h => r = some v ∧ h = am_hh X S2 L2)) (J : JJ S2) : BO X y1 y2 vs S L := by
  unfold BO
  refine ax_mono h1 ?_
  rintro r h ⟨rfl, rfl⟩
  refine ⟨v, S1, L1, rfl, rfl, ax_mono h2 ?_⟩
  rintro r h ⟨rfl, rfl⟩
  exact ⟨rfl, S2, L2, rfl, J⟩
/-- an answer and a heap -/
def am_is (X : Nat × (Nat → Int32)) (L : Nat → Int64) (v : Value) (S : Nat → Nat → Int32) : Option Value → am_H → Prop := fun r h => r = some v ∧ h = am_hh X S L
theorem am_is_i {X : Nat × (Nat → Int32)} {L : Nat → Int64} {v : Value} {S : Nat → Nat → Int32} : am_is X L v S (some v) (am_hh X S L) := ⟨rfl, rfl⟩
theorem am_ix_nI {i : Int32} {n : Nat} (h : am_ix i n = true) : i = nI i.toNatClampNeg := by
  unfold am_ix at h
  rw [Bool.and_eq_true] at h
  obtain ⟨j, hj, e⟩ := nI_of (x := i) (by simpa using h.1)
  rw [e, nI_clamp hj]
theorem mF_g0 {S : Nat → Nat → Int32} {g n : Nat} (h : mF S g n) : ¬ S 285 8 = 0 := by
  rw [h.2.1.1]
  have := h.2.1.2
  exact nI_ne0 (by omega) (by omega)
theorem kt_takeFrom {d : Nat} {X : Nat × (Nat → Int32)} {S : Nat → Nat → Int32} {L : Nat → Int64} {w v : Nat} {Q : Option Value → am_H → Prop} (hw : am_isW w) (hv : am_isW v) (hd : v + 9 ≤ w ∨ w + 9 ≤ v) (c1 : w_cl (am_sub S w)) (c2 : w_cl (am_sub S v)) (hQ : Q none (am_hh X (am_ovl S w (am_sub S v)) L)) : am_mt (d + 1) 43 [.ref w, .ref v] (am_hh X S L) Q := by
  have e : am_hh X S L = am_ov (am_ov (am_hh X S L) v (am_sub S v)) w (am_sub S w) := by
    rw [← am_hh_sub hv, ← am_hh_sub hw]
  have e2 : am_ov (am_ov (am_hh X S L) v (am_sub S v)) w (am_sub S v) = am_hh X (am_ovl S w (am_sub S v)) L := by
    rw [← am_hh_sub hv, am_hh_ov hw]
  exact kw e e2 (fun _ => ct_takeFrom (am_isW_k hw X S L) (am_isW_k hv X S L) hd c1 c2) hQ
theorem kt_takeFrom29' {d : Nat} {X : Nat × (Nat → Int32)} {S W : Nat → Nat → Int32} {L : Nat → Int64} {Q : Option Value → am_H → Prop} (c1 : w_cl W) (c2 : w_cl (am_sub S 20)) (hQ : Q none (am_hh X (am_ovl S 29 (am_sub S 20)) L)) : am_mt (d + 1) 43 [.ref 29, .ref 20] (am_hh X (am_ovl S 29 W) L) Q := by
  refine kt_takeFrom isW29 isW20 (by omega) (by rw [am_sub_s S c1]; exact c1) (by rw [am_sub_o S W (Or.inl (by decide))]; exact c2) ?_
  rw [am_sub_o S W (Or.inl (by decide)), am_ovl_ovl]
  exact hQ
