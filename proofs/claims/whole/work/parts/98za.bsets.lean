theorem zb_n {s i : Nat} (hi : i < 32) : (nI s).toBitVec.getLsbD i = s.testBit i := by
  show (BitVec.ofNat 32 s).getLsbD i = _
  rw [BitVec.getLsbD_ofNat]
  simp [hi]
theorem zb_or (a b : Int32) (i : Nat) : (a ||| b).toBitVec.getLsbD i = (a.toBitVec.getLsbD i || b.toBitVec.getLsbD i) := by
  rw [Int32.toBitVec_or, BitVec.getLsbD_or]
theorem zb_and (a b : Int32) (i : Nat) : (a &&& b).toBitVec.getLsbD i = (a.toBitVec.getLsbD i && b.toBitVec.getLsbD i) := by
  rw [Int32.toBitVec_and, BitVec.getLsbD_and]
theorem zb_xor (a b : Int32) (i : Nat) : (a ^^^ b).toBitVec.getLsbD i = (a.toBitVec.getLsbD i ^^ b.toBitVec.getLsbD i) := by
  rw [Int32.toBitVec_xor, BitVec.getLsbD_xor]
theorem zb_m (i : Nat) (hi : i < 32) : (-1 : Int32).toBitVec.getLsbD i = true := by
  show (BitVec.allOnes 32).getLsbD i = true
  rw [BitVec.getLsbD_allOnes]
  exact decide_eq_true hi
theorem zb_0 (i : Nat) : (0 : Int32).toBitVec.getLsbD i = false := by
  show (0#32).getLsbD i = false
  exact BitVec.getLsbD_zero
theorem zb_eq (a b : Int32) (h : ∀ i, i < 32 → a.toBitVec.getLsbD i = b.toBitVec.getLsbD i) : a = b := by
  apply Int32.toBitVec_inj.mp
  apply BitVec.eq_of_getLsbD_eq
  intro i hi
  exact h i hi
set_option maxRecDepth 100000 in
theorem zb_dec : ((List.range 6).all fun j => (List.range 32).all fun i => (1 <<< (nI j &&& 31) : Int32).toBitVec.getLsbD i == decide (i = j)) = true := by decide +kernel
theorem zb_1 {i j : Nat} (hj : j < 6) (hi : i < 32) : (1 <<< (nI j &&& 31) : Int32).toBitVec.getLsbD i = decide (i = j) := eq_of_beq (List.all_eq_true.mp (List.all_eq_true.mp zb_dec j (List.mem_range.mpr hj)) i (List.mem_range.mpr hi))
theorem wh_bit (W : Nat → Nat → Int32) (q : Int32) {i : Nat} (hi : i < 32) : ∀ (k j : Nat) (a : Int32), j + k ≤ 6 → (w_wh W q k j a).toBitVec.getLsbD i = (a.toBitVec.getLsbD i || decide ((j ≤ i ∧ i < j + k) ∧ W 5 i = q)) := by
  intro k
  induction k with
  | zero =>
    intro j a _
    rw [decide_eq_false (by omega), Bool.or_false]
    rfl
  | succ k ih =>
    intro j a hj
    show (w_wh W q k (j + 1) (if W 5 j = q then a ||| (1 <<< (nI j &&& 31)) else a)).toBitVec.getLsbD i = _
    rw [ih (j + 1) _ (by omega)]
    by_cases e : W 5 j = q
    · rw [if_pos e, zb_or, zb_1 (by omega) hi]
      by_cases e2 : i = j
      · subst e2
        rw [decide_eq_true rfl, decide_eq_false (p := (i + 1 ≤ i ∧ i < i + 1 + k) ∧ W 5 i = q) (by omega), decide_eq_true (p := (i ≤ i ∧ i < i + (k + 1)) ∧ W 5 i = q) ⟨by omega, e⟩, Bool.or_false]
      · rw [decide_eq_false e2, Bool.or_false]
        congr 1
        apply decide_eq_decide.mpr
        constructor
        · rintro ⟨h, h2⟩; exact ⟨by omega, h2⟩
        · rintro ⟨h, h2⟩; exact ⟨by omega, h2⟩
    · rw [if_neg e]
      congr 1
      apply decide_eq_decide.mpr
      constructor
      · rintro ⟨h, h2⟩; exact ⟨by omega, h2⟩
      · rintro ⟨h, h2⟩
        by_cases e2 : i = j
        · subst e2; exact absurd h2 e
        · exact ⟨by omega, h2⟩
def w_th (W : Nat → Nat → Int32) (n : Nat) : Int32 := w_wh W 0 n 0 0 ||| w_wh W 1 n 0 0
section SETS2
variable {W : Nat → Nat → Int32} {n s : Nat}
theorem th_bit (hn : n ≤ 6) {i : Nat} (hi : i < 32) : (w_th W n).toBitVec.getLsbD i = decide (i < n ∧ (W 5 i = 0 ∨ W 5 i = 1)) := by
  unfold w_th
  rw [zb_or, wh_bit W 0 hi n 0 0 (by omega), wh_bit W 1 hi n 0 0 (by omega), zb_0, Bool.false_or, Bool.false_or, ← Bool.decide_or]
  apply decide_eq_decide.mpr
  constructor
  · rintro (⟨h, h2⟩ | ⟨h, h2⟩)
    · exact ⟨by omega, Or.inl h2⟩
    · exact ⟨by omega, Or.inr h2⟩
  · rintro ⟨h, h2 | h2⟩
    · exact Or.inl ⟨by omega, h2⟩
    · exact Or.inr ⟨by omega, h2⟩
theorem sok_iff (h : Nat → Int32) (s : Nat) : ∀ k j, sok h s k j = true ↔ ∀ i, j ≤ i → i < j + k → bt s i → ¬ (h i = 2 ∨ h i = 3) := by
  intro k
  induction k with
  | zero => intro j; exact ⟨fun _ i h1 h2 => absurd h2 (by omega), fun _ => rfl⟩
  | succ k ih =>
    intro j
    unfold sok
    by_cases e : bt s j ∧ (h j = 2 ∨ h j = 3)
    · rw [if_pos e]
      exact ⟨fun z => absurd z (by decide), fun z => absurd e.2 (z j (by omega) (by omega) e.1)⟩
    · rw [if_neg e, ih (j + 1)]
      constructor
      · intro z i h1 h2 h3 h4
        by_cases q : i = j
        · subst q; exact e ⟨h3, h4⟩
        · exact z i (by omega) (by omega) h3 h4
      · intro z i h1 h2
        exact z i (by omega) (by omega)
theorem tb_lt {i : Nat} (hs : s < 2 ^ n) (h : s.testBit i = true) : i < n := by
  by_cases e : i < n
  · exact e
  · rw [Nat.testBit_lt_two_pow (Nat.lt_of_lt_of_le hs (Nat.pow_le_pow_right (by omega) (by omega)))] at h
    exact absurd h (by decide)
theorem p2_64 (hn : n ≤ 6) (hs : s < 2 ^ n) : s < 64 := Nat.lt_of_lt_of_le hs (show 2 ^ n ≤ 2 ^ 6 from Nat.pow_le_pow_right (by omega) hn)
theorem sub_th (hn : n ≤ 6) (hs : s < 2 ^ n) (hh : ∀ p, p < n → W 5 p = 0 ∨ W 5 p = 1 ∨ W 5 p = 2 ∨ W 5 p = 3) : (nI s &&& (w_th W n ^^^ (-1))) = 0 ↔ sok (W 5) s n 0 = true := by
  have hs6 := p2_64 hn hs
  rw [sok_iff]
  constructor
  · intro z i _ hi hb hl
    have := congrArg (fun x : Int32 => x.toBitVec.getLsbD i) z
    rw [zb_and, zb_xor, zb_m i (by omega), th_bit hn (by omega), zb_n (by omega), zb_0, (bt_t hs6 (by omega)).mp hb] at this
    have h2 : i < n ∧ (W 5 i = 0 ∨ W 5 i = 1) := by
      by_cases hp : i < n ∧ (W 5 i = 0 ∨ W 5 i = 1)
      · exact hp
      · rw [decide_eq_false hp] at this
        exact absurd this (by decide)
    rcases h2.2 with e | e <;> rcases hl with l | l <;> (rw [e] at l; exact absurd l (by decide))
  · intro z
    apply zb_eq
    intro i hi
    rw [zb_and, zb_xor, zb_m i hi, th_bit hn hi, zb_n hi, zb_0]
    by_cases e : s.testBit i = true
    · have hin := tb_lt hs e
      have h3 := z i (by omega) (by omega) ((bt_t hs6 (by omega)).mpr e)
      have h4 : i < n ∧ (W 5 i = 0 ∨ W 5 i = 1) := by
        refine ⟨hin, ?_⟩
        rcases hh i hin with h | h | h | h
        · exact Or.inl h
        · exact Or.inr h
        · exact absurd (Or.inl h) h3
        · exact absurd (Or.inr h) h3
      rw [e, decide_eq_true h4]; rfl
    · rw [Bool.not_eq_true] at e
      rw [e, Bool.false_and]
theorem th_and (hn : n ≤ 6) (hs : s < 2 ^ n) (h : (nI s &&& (w_th W n ^^^ (-1))) = 0) : w_th W n &&& nI s = nI s := by
  apply zb_eq
  intro i hi
  have := congrArg (fun x : Int32 => x.toBitVec.getLsbD i) h
  rw [zb_and, zb_xor, zb_m i hi, zb_0] at this
  rw [zb_and]
  generalize (w_th W n).toBitVec.getLsbD i = x at this ⊢
  generalize (nI s).toBitVec.getLsbD i = y at this ⊢
  cases x <;> cases y <;> first | rfl | exact absurd this (by decide)
theorem m1_and : (-1 : Int32) &&& nI s = nI s := by
  apply zb_eq
  intro i hi
  rw [zb_and, zb_m i hi, Bool.true_and]
end SETS2
set_option maxRecDepth 100000 in
theorem sh_dec : ((List.range 7).all fun n => decide ((1 <<< (nI n &&& 31) : Int32) = nI (2 ^ n))) = true := by decide +kernel
theorem sh_n {n : Nat} (hn : n ≤ 6) : (1 <<< (nI n &&& 31) : Int32) = nI (2 ^ n) := of_decide_eq_true (List.all_eq_true.mp sh_dec n (List.mem_range.mpr (by omega)))
def sf (f : Nat → Bool) : Nat → Nat → Int32 → Int32 → Int32 → Int32 × Int32 × Int32
  | 0, _, x, y, z => (x, y, z)
  | k + 1, s, x, y, z => if f s = true then sf f k (s + 1) (x + 1) (y &&& nI s) (z ||| nI s) else sf f k (s + 1) x y z
def sres (q : Int32) (t : Int32 × Int32 × Int32) : Int32 := if q = 0 then t.1 else if q = 1 then (if t.1 = 0 then 0 else t.2.1) else t.2.2
def mres (q : Int32) (t : Int32 × Int32 × Int32) : Int32 := if q = 0 then t.1 else if t.1 = 0 then 0 else if q = 1 then t.2.1 else t.2.2
theorem sf_eq {W : Nat → Nat → Int32} {n : Nat} (hn : n ≤ 6) (f f' : Nat → Bool) (hf : ∀ s, s < 2 ^ n → f s = f' s) (h0 : ∀ s, s < 2 ^ n → f s = true → (nI s &&& (w_th W n ^^^ (-1))) = 0) (q : Int32) : ∀ (k s c : Nat) (y y' z : Int32), s + k = 2 ^ n → c ≤ s → ((c = 0 ∧ y = -1 ∧ y' = w_th W n ∧ z = 0) ∨ (1 ≤ c ∧ y = y')) → sres q (sf f k s (nI c) y z) = mres q (sf f' k s (nI c) y' z) := by
  have h64 : 2 ^ n ≤ 64 := show 2 ^ n ≤ 2 ^ 6 from Nat.pow_le_pow_right (by omega) hn
  intro k
  induction k with
  | zero =>
    intro s c y y' z hs hc h
    unfold sf sres mres
    dsimp only
    rcases h with ⟨rfl, rfl, rfl, rfl⟩ | ⟨h1, rfl⟩
    · rw [if_pos (show nI 0 = 0 from rfl), if_pos (show nI 0 = 0 from rfl), ite_self]
    · rw [if_neg (nI_ne0 (by omega) (by omega)), if_neg (nI_ne0 (by omega) (by omega))]
  | succ k ih =>
    intro s c y y' z hs hc h
    unfold sf
    rw [← hf s (by omega)]
    by_cases e : f s = true
    · rw [if_pos e, if_pos e, nI_1]
      refine ih (s + 1) (c + 1) _ _ _ (by omega) (by omega) (Or.inr ⟨by omega, ?_⟩)
      rcases h with ⟨rfl, rfl, rfl, rfl⟩ | ⟨h1, rfl⟩
      · rw [m1_and, th_and hn (by omega) (h0 s (by omega) e)]
      · rfl
    · rw [if_neg e, if_neg e]
      exact ih (s + 1) c y y' z (by omega) (by omega) h
section SETS3
variable {d : Nat} {X : Nat × (Nat → Int32)} {S : Nat → Nat → Int32} {L : Nat → Int64} {g n : Nat} {p q u : Int32} {Q : Option Value → am_H → Prop}
theorem kt_ofSets (hn : S 20 4 = nI n) (hn6 : n ≤ 6) (hQ : Q (some (.int (sres q (sf (sfit (S 25) (S 23) n p) (2 ^ n) 0 0 (-1) 0)))) (am_hh X S L)) : am_mt (d + 5) 102 [.ref 20, .int p, .int q] (am_hh X S L) Q := by
  have h64 : 2 ^ n ≤ 64 := show 2 ^ n ≤ 2 ^ 6 from Nat.pow_le_pow_right (by omega) hn6
  have key : ∀ (k s : Nat) (x y z : Int32), s + k = 2 ^ n → Q (some (.int (sres q (sf (sfit (S 25) (S 23) n p) k s x y z)))) (am_hh X S L) → am_ex (d + 5) 102 11 [some (.ref 20), some (.int p), some (.int q), some (.int x), some (.int y), some (.int z), some (.int (nI s))] [] (am_hh X S L) Q := by
    intro k
    induction k with
    | zero =>
      intro s x y z hs hq
      have hle : (1 <<< ((S 20 4) &&& 31)) ≤ nI s := by
        rw [hn, sh_n hn6, show s = 2 ^ n by omega]; exact Int32.le_rfl
      unfold sf sres at hq
      dsimp only at hq
      refine wl_ofSets hn hn6 (fun _ c => ?_) (fun _ c c1 c2 => ?_) (fun _ c c1 c2 => ?_) (fun _ c c1 => ?_) (fun c => absurd hle c) (fun c => absurd hle c)
      · rw [if_pos c] at hq; exact hq
      · rw [if_neg c, if_pos c1, if_neg c2] at hq; exact hq
      · rw [if_neg c, if_pos c1, if_pos c2] at hq; exact hq
      · rw [if_neg c, if_neg c1] at hq; exact hq
    | succ k ih =>
      intro s x y z hs hq
      have hle : ¬ (1 <<< ((S 20 4) &&& 31)) ≤ nI s := by
        rw [hn, sh_n hn6, nI_leI (by omega) (by omega)]; omega
      unfold sf at hq
      refine wl_ofSets hn hn6 (fun c => absurd c hle) (fun c => absurd c hle) (fun c => absurd c hle) (fun c => absurd c hle) (fun _ c => ?_) (fun _ c => ?_)
      · rw [if_neg (ne_true_of_eq_false c)] at hq
        exact ih (s + 1) _ _ _ (by omega) hq
      · rw [if_pos c] at hq
        exact ih (s + 1) _ _ _ (by omega) hq
  exact wp_ofSets (key (2 ^ n) 0 0 (-1) 0 (by omega) hQ)
theorem m_sets_lp (hn : S 285 7 = nI n) (hn6 : n ≤ 6) (f : Nat → Bool) (hf : ∀ s, s < 2 ^ n → (f s = true ↔ (nI s &&& (u ^^^ (-1))) = 0 ∧ ssum (S 291) s n 0 0 = p)) : ∀ (k s : Nat) (x y z : Int32), s + k = 2 ^ n → Q (some (.int (mres q (sf f k s x y z)))) (am_hh X S L) → am_ex (d + 6) 206 64 [some (.ref 285), some (.int p), some (.int q), some (.int u), some (.int x), some (.int y), some (.int z), some (.int (nI s))] [] (am_hh X S L) Q := by
  have h64 : 2 ^ n ≤ 64 := show 2 ^ n ≤ 2 ^ 6 from Nat.pow_le_pow_right (by omega) hn6
  intro k
  induction k with
  | zero =>
    intro s x y z hs hq
    have hle : (1 <<< ((S 285 7) &&& 31)) ≤ nI s := by
      rw [hn, sh_n hn6, show s = 2 ^ n by omega]; exact Int32.le_rfl
    unfold sf mres at hq
    dsimp only at hq
    refine wl_msets hn hn6 (fun c => absurd hle c) (fun _ c c1 c2 => ?_) (fun _ c c1 c2 => ?_) (fun _ c c1 => ?_) (fun _ c => ?_) (fun c => absurd hle c) (fun c => absurd hle c) (fun c => absurd hle c)
    · rw [if_neg c, if_neg c1, if_neg c2] at hq; exact hq
    · rw [if_neg c, if_neg c1, if_pos c2] at hq; exact hq
    · rw [if_neg c, if_pos c1] at hq; exact hq
    · rw [if_pos c] at hq; exact hq
  | succ k ih =>
    intro s x y z hs hq
    have hle : ¬ (1 <<< ((S 285 7) &&& 31)) ≤ nI s := by
      rw [hn, sh_n hn6, nI_leI (by omega) (by omega)]; omega
    have hfs := hf s (by omega)
    unfold sf at hq
    refine wl_msets hn hn6 (fun _ _ => by omega) (fun c => absurd c hle) (fun c => absurd c hle) (fun c => absurd c hle) (fun c => absurd c hle) (fun _ c => ?_) (fun _ c c2 => ?_) (fun _ c c2 => ?_)
    · rw [if_neg (fun z => c (hfs.mp z).1)] at hq
      exact ih (s + 1) _ _ _ (by omega) hq
    · rw [if_neg (fun z => c2 (hfs.mp z).2)] at hq
      exact ih (s + 1) _ _ _ (by omega) hq
    · rw [if_pos (hfs.mpr ⟨c, c2⟩)] at hq
      exact ih (s + 1) _ _ _ (by omega) hq
theorem bo_sets (J : JJ S) (p q : Int32) : BO X 101 206 [.int p, .int q] S L := by
  have J0 := J
  obtain ⟨g, n, m, k, jR, jT, jF, jW, jK, jA, jI, jP, jQ, jC⟩ := J
  have hiff : g_k_sets S p q ↔ g_m_sets S p q := by
    unfold g_k_sets g_m_sets
    rw [gs_iff jW, not_or, not_or]
  by_cases hg : g_k_sets S p q
  · have hgm := hiff.mp hg
    obtain ⟨hn1, hR, hG⟩ := gs_y jW hg.1
    have hn := JW_n jW
    have hh : ∀ i, i < n → am_sub S 20 5 i = 0 ∨ am_sub S 20 5 i = 1 ∨ am_sub S 20 5 i = 2 ∨ am_sub S 20 5 i = 3 := hR.2.2.2.2.2.2.2.2.2.2.2
    have hu : m_th S 293 0 n 0 0 ||| m_th S 293 1 n 0 0 = w_th (am_sub S 20) n := by
      unfold w_th
      rw [mR_wh hR 0 n 0 0 (by omega), mR_wh hR 1 n 0 0 (by omega)]
    have hw : ∀ s, ssum (S 291) s n 0 0 = ssum (S 23) s n 0 0 := fun s => ssum_c (fun j hj => (hR.2.2.2.2.2.2.1 j hj).2.1) n 0 0 (by omega)
    have hsub : ∀ s, s < 2 ^ n → ((nI s &&& (w_th (am_sub S 20) n ^^^ (-1))) = 0 ↔ sok (S 25) s n 0 = true) := fun s hs => sub_th hn.2.2 hs hh
    have hfit : ∀ s, sfit (S 25) (S 23) n p s = true ↔ sok (S 25) s n 0 = true ∧ ssum (S 23) s n 0 0 = p := fun s => by
      unfold sfit
      rw [Bool.and_eq_true, decide_eq_true_iff]
    refine bo_ro (v := .int (sres q (sf (sfit (S 25) (S 23) n p) (2 ^ n) 0 0 (-1) 0))) J0 (wv_k_sets (d := 33) (fun Q hq => kt_ofSets hn.1 hn.2.2 hq) hg am_is_i) (wv_m_sets (d := 33) (mR_F hR jK) hgm ?_)
    rw [hu]
    refine m_sets_lp (d := 33) (n := n) hn.2.1 hn.2.2 (sfit (S 25) (S 23) n p) (fun s hs => ?_) (2 ^ n) 0 0 _ 0 (by omega) ⟨?_, rfl⟩
    · rw [hfit, hsub s hs, hw s]
    · have := (sf_eq (W := am_sub S 20) hn.2.2 (sfit (S 25) (S 23) n p) (sfit (S 25) (S 23) n p) (fun _ _ => rfl) (fun s hs e => (hsub s hs).mpr ((hfit s).mp e).1) q (2 ^ n) 0 0 (-1) (w_th (am_sub S 20) n) 0 (by omega) (by omega) (Or.inl ⟨rfl, rfl, rfl, rfl⟩))
      exact congrArg (fun x => some (Value.int x)) this.symm
  · have hgm := fun z => hg (hiff.mpr z)
    refine bo_ro (v := .int (eg_k_sets S p q)) J0 (wg_k_sets (d := 33) hg am_is_i) (wg_m_sets (d := 33) hgm ⟨?_, rfl⟩)
    unfold eg_k_sets eg_m_sets
    rw [eg_s2 (gs_iff jW) not_or not_or]
end SETS3
