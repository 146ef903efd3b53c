/-! Rules for divisions, and the rows of the model's states: 'st' (293) and 'now' (298). -/
theorem am_na {a b : Int32} {x y : Nat} (ha : a = nI x) (hb : b = nI y) : a + b = nI (x + y) := by rw [ha, hb, nI_add]
theorem am_nm {a b : Int32} {x y : Nat} (ha : a = nI x) (hb : b = nI y) : a * b = nI (x * y) := by rw [ha, hb, pk_mul]
section AX3
variable {d y pc x z : Nat} {ls : am_L} {st : List Value} {h : am_H} {Q : Option Value → am_H → Prop}
theorem ax_irem {a b : Int32} (hP : am_P y pc = some (.irem, x, z)) (hb : ¬ b = 0) (k : am_ex d y (pc + 1) ls (.int (a - a / b * b) :: st) h Q) : am_ex d y pc ls (.int b :: .int a :: st) h Q := by
  refine ax_s hP ?_ rfl rfl k
  simp [am_stp, am_bd, hb]
theorem ax_idiv {a b : Int32} (hP : am_P y pc = some (.idiv, x, z)) (hb : ¬ b = 0) (k : am_ex d y (pc + 1) ls (.int (a / b) :: st) h Q) : am_ex d y pc ls (.int b :: .int a :: st) h Q := by
  refine ax_s hP ?_ rfl rfl k
  simp [am_stp, am_bd, hb]
theorem ax_lrem {a b : Int64} (hP : am_P y pc = some (.lrem, x, z)) (hb : ¬ b = 0) (k : am_ex d y (pc + 1) ls (.long (a - a / b * b) :: st) h Q) : am_ex d y pc ls (.long b :: .long a :: st) h Q := by
  refine ax_s hP ?_ rfl rfl k
  simp [am_stp, am_lq, hb]
theorem ax_ldiv {a b : Int64} (hP : am_P y pc = some (.ldiv, x, z)) (hb : ¬ b = 0) (k : am_ex d y (pc + 1) ls (.long (a / b) :: st) h Q) : am_ex d y pc ls (.long b :: .long a :: st) h Q := by
  refine ax_s hP ?_ rfl rfl k
  simp [am_stp, am_lq, hb]
end AX3
def am_isT (s : Nat) : Prop := s = 293 ∨ s = 298
theorem isT_c {s : Nat} (h : am_isT s) (X : Nat × (Nat → Int32)) (L : Nat → Int64) (f : Nat → Int32) : am_cf0 X L s f = .inr (.inl (0, 39, f)) := by
  rcases h with rfl | rfl <;> rfl
theorem isT_eq {s : Nat} (h : am_isT s) (X : Nat × (Nat → Int32)) (S : Nat → Nat → Int32) (L : Nat → Int64) : (am_hh X S L).1 s = .inr (.inl (0, 39, S s)) := isT_c h X L (S s)
theorem isT_in {s : Nat} (h : am_isT s) (X : Nat × (Nat → Int32)) (S : Nat → Nat → Int32) (L : Nat → Int64) : am_in (am_hh X S L) s = true := by
  rcases h with rfl | rfl <;> rfl
theorem isT_mut {s : Nat} (h : am_isT s) (X : Nat × (Nat → Int32)) (S : Nat → Nat → Int32) (L : Nat → Int64) : am_mut (am_hh X S L) s = true := by
  rcases h with rfl | rfl <;> rfl
/-! What the model computes; s: the state's row. -/
def m_pull (G p : Int32) : Int32 := if G < 2 * p then -(G - p) * (G - 2 * (G - p)) else p * (G - 2 * p)
def m_pl (G g b : Int32) : Int32 := (g - b + G) - (g - b + G) / G * G
def m_ln1 (S : Nat → Nat → Int32) (s : Nat) (b : Int32) : Nat → Nat → Int32 → Int32
  | 0, _, a => a
  | k + 1, j, a => m_ln1 S s b k (j + 1) (a + S s (3 + j) * m_pull (S 285 8) (m_pl (S 285 8) (nI j) b))
def m_ln2 (S : Nat → Nat → Int32) (s : Nat) (b : Int32) : Nat → Nat → Int32 → Int32
  | 0, _, a => a
  | k + 1, j, a => m_ln2 S s b k (j + 1) (a + (if S s (15 + j) = 1 then S 291 j * m_pull (S 285 8) (m_pl (S 285 8) (S s (21 + j)) b) else 0))
def m_lean (S : Nat → Nat → Int32) (s g n : Nat) (b : Int32) : Int32 := m_ln2 S s b n 0 (m_ln1 S s b g 0 0)
def m_bal (S : Nat → Nat → Int32) (s : Nat) (x : Int32) : Bool := decide (¬ 10 * S s 2 < w_abs x)
def m_pin (S : Nat → Nat → Int32) (s : Nat) (q : Int32) : Nat → Nat → Int32 → Int32
  | 0, _, a => a
  | k + 1, j, a => m_pin S s q k (j + 1) (if S s (15 + j) = 1 ∧ S s (21 + j) = q then nI j else a)
def m_th (S : Nat → Nat → Int32) (s : Nat) (q : Int32) : Nat → Nat → Int32 → Int32
  | 0, _, a => a
  | k + 1, j, a => m_th S s q k (j + 1) (a ||| (if S s (15 + j) = q then 1 <<< (nI j &&& 31) else 0))
def m_dn (S : Nat → Nat → Int32) (s g n j : Nat) : Bool :=
  if S 290 j = 2 then decide (¬ S s (27 + j) < S 292 j) && decide (¬ m_th S s 0 n 0 0 = 0)
  else if S 290 j = 3 then decide (¬ S s (27 + j) < 1)
  else if S 290 j = 5 then decide (¬ S s (27 + j) < S 292 j) || (decide (¬ S s (27 + j) < 1) && decide (¬ w_abs (m_lean S s g n (S s 1)) < 5 * S s 2))
  else decide (¬ S s (27 + j) < S 292 j)
def m_nx (S : Nat → Nat → Int32) (s : Nat) : Nat → Nat → Int32
  | 0, _ => -1
  | k + 1, j => if S s (15 + (S 297 j).toNatClampNeg) = 0 then S 297 j else m_nx S s k (j + 1)
def m_gs (S : Nat → Nat → Int32) (s j : Nat) : Bool := decide ((S 290 j = 4 ∧ 5 ≤ S s (33 + j)) ∨ (S 290 j = 5 ∧ ¬ S s (33 + j) < 2))
def m_l1 (S : Nat → Nat → Int32) (s j : Nat) : Nat → Nat → Int32 :=
  if S s (15 + j) = 0 then am_u (am_u S s (33 + j) (S s (33 + j) + 1)) s (15 + j) (if m_gs (am_u S s (33 + j) (S s (33 + j) + 1)) s j = true then 3 else 0) else S
def m_ls (s : Nat) : Nat → Nat → (Nat → Nat → Int32) → Nat → Nat → Int32
  | 0, _, S => S
  | k + 1, j, S => m_ls s k (j + 1) (m_l1 S s j)
theorem am_u_ni (W : Nat → Nat → Int32) {k i j : Nat} {v : Int32} (h : j ≠ i) : am_u W k i v k j = W k j := by
  unfold am_u upd
  rw [if_pos rfl, if_neg h]
theorem am_u_eq (W : Nat → Nat → Int32) (k i : Nat) (v : Int32) : am_u W k i v k i = v := by
  unfold am_u upd
  rw [if_pos rfl, if_pos rfl]
/-! a step of the model -/
theorem m_pin_or (S : Nat → Nat → Int32) (s : Nat) (q : Int32) : ∀ (k j : Nat) (a : Int32), m_pin S s q k j a = a ∨ ∃ i, j ≤ i ∧ i < j + k ∧ S s (15 + i) = 1 ∧ S s (21 + i) = q ∧ m_pin S s q k j a = nI i
  | 0, _, _ => Or.inl rfl
  | k + 1, j, a => by
    unfold m_pin
    rcases m_pin_or S s q k (j + 1) (if S s (15 + j) = 1 ∧ S s (21 + j) = q then nI j else a) with e | ⟨i, h1, h2, h3, h4, h5⟩
    · by_cases h : S s (15 + j) = 1 ∧ S s (21 + j) = q
      · rw [e, if_pos h]
        exact Or.inr ⟨j, Nat.le_refl _, by omega, h.1, h.2, rfl⟩
      · rw [e, if_neg h]
        exact Or.inl rfl
    · exact Or.inr ⟨i, by omega, by omega, h3, h4, h5⟩
theorem m_pin_ge {S : Nat → Nat → Int32} {s n : Nat} {q : Int32} (h : ¬ m_pin S s q n 0 (-1) < 0) : ∃ i, i < n ∧ m_pin S s q n 0 (-1) = nI i := by
  rcases m_pin_or S s q n 0 (-1) with e | ⟨i, h1, h2, -, -, h5⟩
  · rw [e] at h
    exact absurd (by decide) h
  · exact ⟨i, by omega, h5⟩
theorem m_nx_or (S : Nat → Nat → Int32) (s : Nat) (hrk : ∀ j, j < 6 → ∃ r, r < 6 ∧ S 297 j = nI r) : ∀ (k j : Nat), j + k ≤ 6 → m_nx S s k j = -1 ∨ ∃ r, r < 6 ∧ m_nx S s k j = nI r
  | 0, _, _ => Or.inl rfl
  | k + 1, j, h => by
    unfold m_nx
    split
    · exact Or.inr (hrk j (by omega))
    · exact m_nx_or S s hrk k (j + 1) (by omega)
theorem m_nx_ge {S : Nat → Nat → Int32} {s n : Nat} (hrk : ∀ j, j < 6 → ∃ r, r < 6 ∧ S 297 j = nI r) (hn : n ≤ 6) (h : ¬ m_nx S s n 0 < 0) : ∃ r, r < 6 ∧ m_nx S s n 0 = nI r := by
  rcases m_nx_or S s hrk n 0 (by omega) with e | e
  · rw [e] at h
    exact absurd (by decide) h
  · exact e
/-- one gets off: the row, and who is still there -/
def m_s1 (S : Nat → Nat → Int32) (s g n : Nat) : (Nat → Nat → Int32) × Int32 :=
  if m_pin S s (S s 1) n 0 (-1) < 0 then (S, m_pin S s (S s 1) n 0 (-1))
  else if m_dn S s g n (m_pin S s (S s 1) n 0 (-1)).toNatClampNeg = true then (am_u (am_u S s (15 + (m_pin S s (S s 1) n 0 (-1)).toNatClampNeg) 2) s (21 + (m_pin S s (S s 1) n 0 (-1)).toNatClampNeg) (-1000000), -1)
  else (S, m_pin S s (S s 1) n 0 (-1))
def m_bd (S : Nat → Nat → Int32) (s j : Nat) : Nat → Nat → Int32 := am_u (am_u (am_u S s (15 + j) 1) s (21 + j) (S s 1)) s (27 + j) 0
/-- another one gets in -/
def m_s2 (S : Nat → Nat → Int32) (s n : Nat) (one : Int32) : Nat → Nat → Int32 :=
  if 0 ≤ one then S else if m_nx S s n 0 < 0 then S else m_bd S s (m_nx S s n 0).toNatClampNeg
def m_s3 (S : Nat → Nat → Int32) (s n : Nat) : Nat → Nat → Int32 := am_u (m_ls s n 0 S) s 0 (m_ls s n 0 S s 0 + 1)
def m_to (S : Nat → Nat → Int32) (s : Nat) : Int32 := (S s 1 + 1) - (S s 1 + 1) / S 285 8 * S 285 8
def m_s4 (S : Nat → Nat → Int32) (s n : Nat) : Nat → Nat → Int32 :=
  if m_pin S s (S s 1) n 0 (-1) < 0 then S else if 99 ≤ S s (27 + (m_pin S s (S s 1) n 0 (-1)).toNatClampNeg) then S
  else am_u S s (27 + (m_pin S s (S s 1) n 0 (-1)).toNatClampNeg) (S s (27 + (m_pin S s (S s 1) n 0 (-1)).toNatClampNeg) + 1)
def m_st (S : Nat → Nat → Int32) (s g n : Nat) : Nat → Nat → Int32 := m_s3 (m_s2 (m_s1 S s g n).1 s n (m_s1 S s g n).2) s n
def m_sb (S : Nat → Nat → Int32) (s g n : Nat) : Bool := m_bal (m_st S s g n) s (m_lean (m_st S s g n) s g n (m_to (m_st S s g n) s))
def m_step (S : Nat → Nat → Int32) (s g n : Nat) : Nat → Nat → Int32 := if m_sb S s g n = true then m_s4 (am_u (m_st S s g n) s 1 (m_to (m_st S s g n) s)) s n else m_st S s g n
theorem m_l1_ne (S : Nat → Nat → Int32) (s j : Nat) {a : Nat} (h : a ≠ s) : m_l1 S s j a = S a := by
  unfold m_l1
  split
  · rw [am_u_ne _ h, am_u_ne _ h]
  · rfl
theorem m_ls_ne (s : Nat) {a : Nat} (h : a ≠ s) : ∀ (k j : Nat) (S : Nat → Nat → Int32), m_ls s k j S a = S a
  | 0, _, _ => rfl
  | k + 1, j, S => by
    show m_ls s k (j + 1) (m_l1 S s j) a = S a
    rw [m_ls_ne s h k (j + 1), m_l1_ne S s j h]
theorem m_s1_ne (S : Nat → Nat → Int32) (s g n : Nat) {a : Nat} (h : a ≠ s) : (m_s1 S s g n).1 a = S a := by
  unfold m_s1
  split
  · rfl
  · split
    · show am_u _ _ _ _ a = S a
      rw [am_u_ne _ h, am_u_ne _ h]
    · rfl
theorem m_s2_ne (S : Nat → Nat → Int32) (s n : Nat) (one : Int32) {a : Nat} (h : a ≠ s) : m_s2 S s n one a = S a := by
  unfold m_s2
  split
  · rfl
  · split
    · rfl
    · unfold m_bd
      rw [am_u_ne _ h, am_u_ne _ h, am_u_ne _ h]
theorem m_st_ne (S : Nat → Nat → Int32) (s g n : Nat) {a : Nat} (h : a ≠ s) : m_st S s g n a = S a := by
  unfold m_st m_s3
  rw [am_u_ne _ h, m_ls_ne s h, m_s2_ne _ _ _ _ h, m_s1_ne _ _ _ _ h]
theorem m_s4_ne (S : Nat → Nat → Int32) (s n : Nat) {a : Nat} (h : a ≠ s) : m_s4 S s n a = S a := by
  unfold m_s4
  split
  · rfl
  · split
    · rfl
    · exact am_u_ne _ h
theorem m_step_ne (S : Nat → Nat → Int32) (s g n : Nat) {a : Nat} (h : a ≠ s) : m_step S s g n a = S a := by
  unfold m_step
  split
  · rw [m_s4_ne _ _ _ h, am_u_ne _ h, m_st_ne _ _ _ _ h]
  · exact m_st_ne _ _ _ _ h
theorem isT_ne {s : Nat} (h : am_isT s) : (285 : Nat) ≠ s ∧ (297 : Nat) ≠ s ∧ (290 : Nat) ≠ s := by
  rcases h with rfl | rfl <;> decide
