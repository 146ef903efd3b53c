theorem lgc_0 {b : Nat} (hb : b < 2 ^ 62) : lg_cmp (lN b) 0 = 0 ↔ b = 0 := by
  have e : lN b = 0 ↔ b = 0 := pk_lEQ (b := 0) (by omega) (by omega)
  unfold lg_cmp
  split
  · rename_i z
    have := (pk_lLT (a := 0) (b := b) (by omega) (by omega)).mp z
    exact ⟨fun q => absurd q (by decide), fun q => by omega⟩
  · split
    · rename_i z; exact ⟨fun _ => e.mp z, fun _ => rfl⟩
    · rename_i z; exact ⟨fun q => absurd q (by decide), fun q => absurd (e.mpr q) z⟩
theorem lgc_le {b : Nat} (hb : b < 2 ^ 62) : lg_cmp (lN b) 0 ≤ 0 ↔ b = 0 := by
  have h1 : 0 < b → lN b > 0 := fun z => (pk_lLT (a := 0) (b := b) (by omega) (by omega)).mpr z
  unfold lg_cmp
  split
  · rename_i z
    have := (pk_lLT (a := 0) (b := b) (by omega) (by omega)).mp z
    exact ⟨fun q => absurd q (by decide), fun q => by omega⟩
  · rename_i z
    constructor
    · intro _
      by_cases q : b = 0
      · exact q
      · exact absurd (h1 (by omega)) z
    · intro _
      split <;> decide
set_option maxRecDepth 100000 in
theorem bcd_dec : ((List.range 64).all fun T => decide (e_bitCount (fun _ _ => 0) (nI T) = nI (pcnt T)) && decide (w_bits (nI T) = nI (pcnt T))) = true := by decide +kernel
theorem w_bits_n {T : Nat} (hT : T < 64) : w_bits (nI T) = nI (pcnt T) := of_decide_eq_true (Bool.and_eq_true_iff.mp (List.all_eq_true.mp bcd_dec T (List.mem_range.mpr hT))).2
theorem pcnt_le {T : Nat} : pcnt T ≤ 6 := by
  unfold pcnt bcn bcn bcn bcn bcn bcn bcn
  repeat' split
  all_goals omega
def gn (s : Nat) : Nat → Nat → (Nat → Nat → Int32) → Nat → Nat → Int32
  | 0, _, W => W
  | k + 1, i, W => gn s k (i + 1) (if bt s i then am_u W 5 i 3 else W)
section AWAY
variable {d : Nat} {X : Nat × (Nat → Int32)} {S W : Nat → Nat → Int32} {L : Nat → Int64} {g n s T p : Nat} {Q : Option Value → am_H → Prop}
theorem kt_bitCount {x : Int32} (hx : x = nI T) (hT : T < 64) (hQ : Q (some (.int (nI (pcnt T)))) (am_hh X S L)) : am_mt (d + 1) 92 [.int x] (am_hh X S L) Q := by
  subst hx
  refine w_bitCount ?_
  have e : e_bitCount S (nI T) = nI (pcnt T) := of_decide_eq_true (Bool.and_eq_true_iff.mp (List.all_eq_true.mp bcd_dec T (List.mem_range.mpr hT))).1
  rw [e]
  exact hQ
theorem wF_gn (s : Nat) : ∀ k i V, wF V g n → wF (gn s k i V) g n := by
  intro k
  induction k with
  | zero => intro i V h; exact h
  | succ k ih =>
    intro i V h
    refine ih (i + 1) _ ?_
    split
    · exact wF_u (c := 5) h (by omega)
    · exact h
theorem w_cl_gn (s : Nat) : ∀ k i V, i + k ≤ 6 → w_cl V → w_cl (gn s k i V) := by
  intro k
  induction k with
  | zero => intro i V _ h; exact h
  | succ k ih =>
    intro i V hi h
    refine ih (i + 1) _ (by omega) ?_
    split
    · exact w_cl_u h (show i < 6 by omega)
    · exact h
theorem p10 {p : Nat} (hp : p ≤ 10) : (10 - nI p : Int32).toInt64 = lN (10 - p) := by
  match p, hp with
  | 0, _ => rfl
  | 1, _ => rfl
  | 2, _ => rfl
  | 3, _ => rfl
  | 4, _ => rfl
  | 5, _ => rfl
  | 6, _ => rfl
  | 7, _ => rfl
  | 8, _ => rfl
  | 9, _ => rfl
  | 10, _ => rfl
  | p + 11, h => omega
theorem kt_casesOf {x y z : Int32} (hx : x = nI s) (hy : y = nI T) (hz : z = nI p) (hs : s < 64) (hT : T < 64) (hp : p ≤ 10) (hQ : Q (some (.long (lN (pc p T s 6 0 1)))) (am_hh X S L)) : am_mt (d + 2) 121 [.int x, .int y, .int z] (am_hh X S L) Q := by
  subst hx
  subst hy
  subst hz
  have key : ∀ (k i c : Nat), i + k = 6 → Q (some (.long (lN (pc p T s k i c)))) (am_hh X S L) → am_ex (d + 2) 121 5 [some (.int (nI s)), some (.int (nI T)), some (.int (nI p)), some (.long (lN c)), none, some (.int (nI i))] [] (am_hh X S L) Q := by
    intro k
    induction k with
    | zero =>
      intro i c hi hq
      have e : i = 6 := by omega
      subst e
      exact wl_cases (fun _ => hq) (fun c => absurd (by decide) c) (fun c => absurd (by decide) c) (fun c => absurd (by decide) c)
    | succ k ih =>
      intro i c hi hq
      have h6 : ¬ 6 ≤ nI i := by
        rw [show (6 : Int32) = nI 6 from rfl, nI_leI (by omega) (by omega)]; omega
      have hq' : Q (some (.long (lN (pc p T s k (i + 1) (c * fac p T s i))))) (am_hh X S L) := hq
      unfold fac at hq'
      refine wl_cases (fun c => absurd c h6) (fun _ c1 => ?_) (fun _ c1 c2 => ?_) (fun _ c1 c2 => ?_)
      · rw [if_neg (fun z => c1 ((bt_t hT (by omega)).mpr z)), Nat.mul_one] at hq'
        exact ih (i + 1) c (by omega) hq'
      · rw [if_pos ((bt_t hT (by omega)).mp c1), if_neg (fun z => c2 ((bt_t hs (by omega)).mpr z))] at hq'
        rw [p10 hp, lN_mul]
        exact ih (i + 1) _ (by omega) hq'
      · rw [if_pos ((bt_t hT (by omega)).mp c1), if_pos ((bt_t hs (by omega)).mp c2)] at hq'
        rw [nI_l (by omega), lN_mul]
        exact ih (i + 1) _ (by omega) hq'
  exact wp_cases (key 6 0 1 (by omega) hQ)
theorem kt_without (hf : wF (am_sub S 20) g n) (hc1 : w_cl W) (hc0 : w_cl (am_sub S 20)) (hQ : Q none (am_hh X (am_ovl S 29 (gn s n 0 (am_sub S 20))) L)) : am_mt (d + 3) 122 [.ref 281, .int (nI s)] (am_hh X (am_ovl S 29 W) L) Q := by
  have hn6 := hf.2.1
  have key : ∀ (k i : Nat) (V : Nat → Nat → Int32), i + k = n → wF V g n → Q none (am_hh X (am_ovl S 29 (gn s k i V)) L) → am_ex (d + 3) 122 13 [some (.ref 281), some (.int (nI s)), some (.int (nI i))] [] (am_hh X (am_ovl S 29 V) L) Q := by
    intro k
    induction k with
    | zero =>
      intro i V hi hV hq
      have c0 : V 0 4 ≤ nI i := by rw [hV.1, show i = n by omega]; exact Int32.le_rfl
      exact wl_without (fun c => absurd c0 c) (fun _ => hq) (fun c => absurd c0 c) (fun c => absurd c0 c)
    | succ k ih =>
      intro i V hi hV hq
      have c0 : ¬ V 0 4 ≤ nI i := by rw [hV.1, nI_leI (by omega) (by omega)]; omega
      have hq' : Q none (am_hh X (am_ovl S 29 (gn s k (i + 1) (if bt s i then am_u V 5 i 3 else V))) L) := hq
      refine wl_without (fun _ _ => by omega) (fun c => absurd c c0) (fun _ c => ?_) (fun _ c => ?_)
      · rw [if_neg c] at hq'
        exact ih (i + 1) _ (by omega) hV hq'
      · rw [if_pos c] at hq'
        exact ih (i + 1) _ (by omega) (wF_u (c := 5) hV (by omega)) hq'
  exact wp_without hc1 hc0 (key n 0 _ (by omega) hf hQ)
theorem kt_cd {a b : Nat} (ha : a < 2 ^ 49) (hb : b < 2 ^ 49) (hQ : Q (some (.long (lN (Nat.gcd a b)))) (am_hh X S L)) : am_mt (d + 2) 123 [.long (lN a), .long (lN b)] (am_hh X S L) Q := by
  have key : ∀ (a1 b1 k i a b : Nat) (y9 : Option Value), i + k = 100 → a < 2 ^ 49 → b < 2 ^ 49 → Q (some (.long (lN (egc k a b)))) (am_hh X S L) → am_ex (d + 2) 123 9 [some (.long (lN a1)), none, some (.long (lN b1)), none, some (.long (lN a)), none, some (.long (lN b)), none, some (.int (nI i)), y9, none] [] (am_hh X S L) Q := by
    intro a1 b1 k
    induction k with
    | zero =>
      intro i a b y9 hi ha hb hq
      have e : i = 100 := by omega
      subst e
      exact wl_cd (fun c => absurd (by decide) c) (fun _ => hq) (fun c => absurd (by decide) c) (fun c => absurd (by decide) c)
    | succ k ih =>
      intro i a b y9 hi ha hb hq
      have h6 : ¬ 100 ≤ nI i := by
        rw [show (100 : Int32) = nI 100 from rfl, nI_leI (by omega) (by omega)]; omega
      have hq' : Q (some (.long (lN (if b = 0 then a else egc k b (a % b))))) (am_hh X S L) := hq
      refine wl_cd (fun _ c => ?_) (fun c => absurd c h6) (fun _ c => ?_) (fun _ c => ?_)
      · rw [lgc_0 (by omega)] at c
        intro z
        exact c ((pk_lEQ (b := 0) (by omega) (by omega)).mp z)
      · rw [lgc_0 (by omega)] at c
        rw [if_pos c] at hq'
        exact hq'
      · rw [lgc_0 (by omega)] at c
        rw [if_neg c] at hq'
        rw [pk_lRem (by omega) (by omega) (by omega)]
        have := Nat.mod_lt a (show 0 < b by omega)
        exact ih (i + 1) b (a % b) _ (by omega) hb (by omega) hq'
  refine wp_cd (key a b 100 0 a b _ (by omega) ha hb ?_)
  rw [egc_eq 49 100 a b (by omega) hb]
  exact hQ
theorem mt_common {a b : Nat} (ha : a < 2 ^ 49) (hb : b < 2 ^ 49) (hQ : Q (some (.long (lN (Nat.gcd a b)))) (am_hh X S L)) : am_mt (d + 2) 217 [.long (lN a), .long (lN b)] (am_hh X S L) Q := by
  have key : ∀ (a1 b1 k a b : Nat) (y8 : Option Value), b ≤ k → a < 2 ^ 49 → b < 2 ^ 49 → Q (some (.long (lN (Nat.gcd a b)))) (am_hh X S L) → am_ex (d + 2) 217 6 [some (.long (lN a1)), none, some (.long (lN b1)), none, some (.long (lN a)), none, some (.long (lN b)), none, y8, none] [] (am_hh X S L) Q := by
    intro a1 b1 k
    induction k with
    | zero =>
      intro a b y8 hk ha hb hq
      have e : b = 0 := by omega
      subst e
      rw [Nat.gcd_zero_right] at hq
      have z : lg_cmp (lN 0) 0 = 0 := (lgc_0 (by omega)).mpr rfl
      exact wl_common (fun c => absurd z c) (fun _ => hq) (fun c => absurd z c)
    | succ k ih =>
      intro a b y8 hk ha hb hq
      refine wl_common (fun c => ?_) (fun c => ?_) (fun c => ?_)
      · rw [lgc_0 (by omega)] at c
        intro z
        exact c ((pk_lEQ (b := 0) (by omega) (by omega)).mp z)
      · rw [lgc_0 (by omega)] at c
        rw [c, Nat.gcd_zero_right] at hq
        exact hq
      · rw [lgc_0 (by omega)] at c
        rw [pk_lRem (by omega) (by omega) (by omega)]
        have := Nat.mod_lt a (show 0 < b by omega)
        rw [gcd_s] at hq
        exact ih b (a % b) _ (by omega) hb (by omega) hq
  exact wp_common (key a b b a b _ (Nat.le_refl b) ha hb hQ)
end AWAY
