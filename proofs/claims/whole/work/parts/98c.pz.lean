/-! Reading: the tape as a function. -/
abbrev fg (b : Nat → Int32) (len i : Nat) : Prop := i < len ∧ ¬ b i < 48 ∧ ¬ 57 < b i
def pz_by (b : Nat → Int32) (len i : Nat) : Int32 := if i < len then b i else -1
def pz_n (b : Nat → Int32) (len a : Nat) : Nat := if fg b len a then (if fg b len (a + 1) then (if fg b len (a + 2) then 3 else 2) else 1) else 0
def pz_v (b : Nat → Int32) (len a : Nat) : Int32 := if pz_n b len a = 1 then b a - 48 else 10 * (b a - 48) + b (a + 1) - 48
def pz_num (b : Nat → Int32) (len : Nat) (lo hi : Int32) (s : Int32 × Nat) : Int32 × Nat := if s.1 = 0 then (if pz_n b len s.2 = 0 ∨ pz_n b len s.2 = 3 then (1, s.2) else if pz_v b len s.2 < lo ∨ hi < pz_v b len s.2 then (2, s.2) else (0, s.2 + pz_n b len s.2)) else s
def pz_sign (b : Nat → Int32) (len : Nat) (c : Int32) (s : Int32 × Nat) : Int32 × Nat := if s.1 = 0 then (if pz_by b len s.2 = c then (0, s.2 + 1) else (1, s.2)) else s
def pz_kind (x : Int32) : Int32 := if x = 99 then 5 else if x = 102 then 1 else if x = 103 then 3 else if x = 108 then 2 else if x = 115 then 4 else 0
def pz_sort (b : Nat → Int32) (len : Nat) (r : Bool) (s : Int32 × Nat) : Int32 × Nat := if s.1 = 0 then (if pz_kind (pz_by b len s.2) = 0 then (1, s.2) else if r = true then (0, s.2 + 1) else (3, s.2)) else s
/-- the class's tape at a state of reading -/
def TP (b : Nat → Int32) (len : Nat) (S : Nat → Nat → Int32) (s : Int32 × Nat) : Prop := S 18 1 = s.1 ∧ S 18 2 = nI len ∧ S 18 3 = nI s.2 ∧ s.2 ≤ len ∧ len ≤ 100 ∧ ∀ i, i < 100 → S 19 i = b i
def TF (S S' : Nat → Nat → Int32) : Prop := ∀ x, x ≠ 18 → S' x = S x
section PZ
variable {b : Nat → Int32} {len a j : Nat} {s : Int32 × Nat}
theorem pz_n_le (h : pz_n b len a = 1 ∨ pz_n b len a = 2) : a + pz_n b len a ≤ len := by
  unfold pz_n at h ⊢
  by_cases h0 : fg b len a
  · rw [if_pos h0] at h ⊢
    by_cases h1 : fg b len (a + 1)
    · rw [if_pos h1] at h ⊢
      by_cases h2 : fg b len (a + 2)
      · rw [if_pos h2] at h; omega
      · rw [if_neg h2]; have := h1.1; omega
    · rw [if_neg h1]; have := h0.1; omega
  · rw [if_neg h0] at h; omega
theorem pz_n_4 : pz_n b len a = 0 ∨ pz_n b len a = 1 ∨ pz_n b len a = 2 ∨ pz_n b len a = 3 := by
  unfold pz_n
  split
  · split
    · split
      · exact Or.inr (Or.inr (Or.inr rfl))
      · exact Or.inr (Or.inr (Or.inl rfl))
    · exact Or.inr (Or.inl rfl)
  · exact Or.inl rfl
theorem pz_num_le (lo hi : Int32) (h : s.2 ≤ len) : (pz_num b len lo hi s).2 ≤ len := by
  unfold pz_num
  split
  · split
    · exact h
    · rename_i h1
      split
      · exact h
      · have := pz_n_le (b := b) (len := len) (a := s.2) (by have := pz_n_4 (b := b) (len := len) (a := s.2); omega)
        exact this
  · exact h
theorem pz_by_lt {c : Int32} (h : pz_by b len a = c) (hc : c ≠ -1) : a < len := by
  unfold pz_by at h
  by_cases e : a < len
  · exact e
  · rw [if_neg e] at h; exact absurd h.symm hc
theorem pz_sign_le {c : Int32} (hc : c ≠ -1) (h : s.2 ≤ len) : (pz_sign b len c s).2 ≤ len := by
  unfold pz_sign
  split
  · split
    · rename_i h1; exact pz_by_lt h1 hc
    · exact h
  · exact h
theorem pz_kind_lt (h : ¬ pz_kind (pz_by b len a) = 0) : a < len := by
  unfold pz_by at h
  by_cases e : a < len
  · exact e
  · rw [if_neg e] at h; exact absurd (by decide) h
theorem pz_sort_le (r : Bool) (h : s.2 ≤ len) : (pz_sort b len r s).2 ≤ len := by
  unfold pz_sort
  split
  · split
    · exact h
    · rename_i h1
      split
      · exact pz_kind_lt h1
      · exact h
  · exact h
theorem pz_by_fg : (¬ pz_by b len a < 48 ∧ ¬ 57 < pz_by b len a) ↔ fg b len a := by
  unfold pz_by
  by_cases e : a < len
  · rw [if_pos e]; exact ⟨fun h => ⟨e, h⟩, fun h => h.2⟩
  · rw [if_neg e]; exact ⟨fun h => absurd (by decide) h.1, fun h => absurd h.1 e⟩
theorem pz_by_v (h : fg b len a) : pz_by b len a = b a := if_pos h.1
end PZ
