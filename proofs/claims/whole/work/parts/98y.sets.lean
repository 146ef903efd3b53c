/-! Sets. -/
abbrev bt (s j : Nat) : Prop := (((nI s) >>> ((nI j) &&& 31)) &&& 1) = 1
def sok (h : Nat → Int32) (s : Nat) : Nat → Nat → Bool
  | 0, _ => true
  | k + 1, j => if bt s j ∧ (h j = 2 ∨ h j = 3) then false else sok h s k (j + 1)
def ssum (w : Nat → Int32) (s : Nat) : Nat → Nat → Int32 → Int32
  | 0, _, a => a
  | k + 1, j, a => ssum w s k (j + 1) (if bt s j then a + w j else a)
def sfit (h w : Nat → Int32) (n : Nat) (v : Int32) (s : Nat) : Bool := sok h s n 0 && decide (ssum w s n 0 0 = v)
set_option maxRecDepth 100000 in
theorem bt_dec : ((List.range 64).all fun s => (List.range 6).all fun j => decide ((((nI s) >>> ((nI j) &&& 31)) &&& 1) = (if s.testBit j = true then 1 else 0))) = true := by decide +kernel
theorem bt_e {s j : Nat} (hs : s < 64) (hj : j < 6) : (((nI s) >>> ((nI j) &&& 31)) &&& 1) = (if s.testBit j = true then 1 else 0) := of_decide_eq_true (List.all_eq_true.mp (List.all_eq_true.mp bt_dec s (List.mem_range.mpr hs)) j (List.mem_range.mpr hj))
theorem bt_t {s j : Nat} (hs : s < 64) (hj : j < 6) : bt s j ↔ s.testBit j = true := by
  show (((nI s) >>> ((nI j) &&& 31)) &&& 1) = 1 ↔ _
  rw [bt_e hs hj]
  split
  · rename_i h; exact ⟨fun _ => h, fun _ => rfl⟩
  · rename_i h; exact ⟨fun z => absurd z (by decide), fun z => absurd z h⟩
theorem bt_v {s j : Nat} (hs : s < 64) (hj : j < 6) (a w : Int32) : a + (((nI s) >>> ((nI j) &&& 31)) &&& 1) * w = if bt s j then a + w else a := by
  by_cases h : s.testBit j = true
  · rw [if_pos ((bt_t hs hj).mpr h), bt_e hs hj, if_pos h, Int32.one_mul]
  · rw [if_neg (fun z => h ((bt_t hs hj).mp z)), bt_e hs hj, if_neg h, Int32.zero_mul, Int32.add_zero]
theorem ssum_c {w w' : Nat → Int32} {s n : Nat} (h : ∀ j, j < n → w j = w' j) : ∀ k j a, j + k = n → ssum w s k j a = ssum w' s k j a := by
  intro k
  induction k with
  | zero => intro j a _; rfl
  | succ k ih =>
    intro j a hj
    show ssum w s k (j + 1) (if bt s j then a + w j else a) = ssum w' s k (j + 1) (if bt s j then a + w' j else a)
    rw [h j (by omega), ih (j + 1) _ (by omega)]
section SETS
variable {d : Nat} {X : Nat × (Nat → Int32)} {S : Nat → Nat → Int32} {L : Nat → Int64} {n s : Nat} {v : Int32} {Q : Option Value → am_H → Prop}
theorem kt_weighs (hn : S 20 4 = nI n) (hn6 : n ≤ 6) (hQ : Q (some (.int (bI (sfit (S 25) (S 23) n v s)))) (am_hh X S L)) : am_mt (d + 4) 103 [.ref 20, .int (nI s), .int v] (am_hh X S L) Q := by
  have key : ∀ (k j : Nat) (a : Int32), j + k = n → Q (some (.int (bI (sok (S 25) s k j && decide (ssum (S 23) s k j a = v))))) (am_hh X S L) → am_ex (d + 4) 103 5 [some (.ref 20), some (.int (nI s)), some (.int v), some (.int a), some (.int (nI j))] [] (am_hh X S L) Q := by
    intro k
    induction k with
    | zero =>
      intro j a hj hq
      have e : j = n := by omega
      subst e
      have hle : S 20 4 ≤ nI j := by rw [hn]; exact Int32.le_rfl
      refine wl_weighs (fun c => absurd hle c) (fun _ c => ?_) (fun _ c => ?_) (fun c => absurd hle c) (fun c => absurd hle c) (fun c => absurd hle c)
      · rw [show (sok (S 25) s 0 j && decide (ssum (S 23) s 0 j a = v)) = false from by
          show (true && decide (a = v)) = false
          rw [decide_eq_false c]; rfl] at hq
        exact hq
      · rw [show (sok (S 25) s 0 j && decide (ssum (S 23) s 0 j a = v)) = true from by
          show (true && decide (a = v)) = true
          rw [decide_eq_true c]; rfl] at hq
        exact hq
    | succ k ih =>
      intro j a hj hq
      unfold sok ssum at hq
      have hle : ¬ S 20 4 ≤ nI j := by
        rw [hn, nI_leI (by omega) (by omega)]; omega
      refine wl_weighs (fun _ _ => by omega) (fun c => absurd c hle) (fun c => absurd c hle) (fun _ c => ?_) (fun _ c c2 => ?_) (fun _ c c2 => ?_)
      · rw [if_neg (fun z => c z.1), if_neg c] at hq
        exact ih (j + 1) _ (by omega) hq
      · rw [if_neg (fun z => c2 z.2), if_pos c] at hq
        exact ih (j + 1) _ (by omega) hq
      · rw [if_pos ⟨c, c2⟩] at hq
        exact hq
  exact wp_weighs (key n 0 0 (by omega) hQ)
theorem mt_weightOf (hn : S 285 7 = nI n) (hn6 : n ≤ 6) (hs : s < 64) (hQ : Q (some (.int (ssum (S 291) s n 0 0))) (am_hh X S L)) : am_mt (d + 4) 207 [.ref 285, .int (nI s)] (am_hh X S L) Q := by
  have key : ∀ (k j : Nat) (a : Int32), j + k = n → Q (some (.int (ssum (S 291) s k j a))) (am_hh X S L) → am_ex (d + 4) 207 4 [some (.ref 285), some (.int (nI s)), some (.int a), some (.int (nI j))] [] (am_hh X S L) Q := by
    intro k
    induction k with
    | zero =>
      intro j a hj hq
      have e : j = n := by omega
      subst e
      have hle : S 285 7 ≤ nI j := by rw [hn]; exact Int32.le_rfl
      exact wl_weightOf (fun c => absurd hle c) (fun _ => hq) (fun c => absurd hle c)
    | succ k ih =>
      intro j a hj hq
      have hle : ¬ S 285 7 ≤ nI j := by
        rw [hn, nI_leI (by omega) (by omega)]; omega
      refine wl_weightOf (fun _ => by omega) (fun c => absurd c hle) (fun _ => ?_)
      rw [bt_v hs (by omega)]
      exact ih (j + 1) _ (by omega) hq
  exact wp_weightOf (key n 0 0 (by omega) hQ)
end SETS
