section ORD2
variable {d : Nat} {X : Nat × (Nat → Int32)} {S : Nat → Nat → Int32} {L : Nat → Int64} {g n m : Nat} {r : Nat → Nat} {Q : Option Value → am_H → Prop}
def NR (c : Nat) (r : Nat → Nat) (n : Nat) (S S' : Nat → Nat → Int32) (b : Bool) : Prop := (b = false ∧ vnx r n = none ∧ S' = S) ∨ (b = true ∧ ∃ r', vnx r n = some r' ∧ (∀ a, a ≠ c → S' a = S a) ∧ ∀ k, k < 6 → S' c k = nI (r' k))
theorem nI_dec1 (k : Nat) : nI (k + 1) + -1 = nI k := by
  rw [← Int32.sub_eq_add_neg]; exact nI_pred k
theorem sw_ag {c i j : Nat} {S1 : Nat → Nat → Int32} {r1 : Nat → Nat} (hi : i < 6) (hj : j < 6) (h : ∀ k, k < 6 → S1 c k = nI (r1 k)) : ∀ k, k < 6 → am_u (am_u S1 c i (S1 c j)) c j (S1 c i) c k = nI (vsw r1 i j k) := by
  intro k hk
  unfold vsw
  rw [am_u_at, am_u_at]
  by_cases e : k = j
  · rw [if_pos ⟨rfl, e⟩, if_pos e, h i hi]
  · rw [if_neg (fun z => e z.2), if_neg e]
    by_cases e2 : k = i
    · rw [if_pos ⟨rfl, e2⟩, if_pos e2, h j hj]
    · rw [if_neg (fun z => e2 z.2), if_neg e2, h k hk]
theorem sw_lt {r1 : Nat → Nat} {i j : Nat} (hi : i < 6) (hj : j < 6) (h : ∀ k, k < 6 → r1 k < 6) : ∀ k, k < 6 → vsw r1 i j k < 6 := by
  intro k hk
  unfold vsw
  split
  · exact h i hi
  · split
    · exact h j hj
    · exact h k hk
theorem kt_nextRank (hn : S 20 4 = nI n) (h1 : 1 ≤ n) (h6 : n ≤ 6) (ha : ∀ k, k < 6 → S 278 k = nI (r k)) (hr : ∀ k, k < 6 → r k < 6) (hQ : ∀ b S', NR 278 r n S S' b → Q (some (.int (bI b))) (am_hh X S' L)) : am_mt (d + 2) 94 [.ref 277] (am_hh X S L) Q := by
  have hl : S 20 4 - 1 = nI (n - 1) := by
    rw [hn]
    have := nI_pred (n - 1)
    rw [show n - 1 + 1 = n by omega] at this
    exact this
  have hcmp : ∀ a b, a < 6 → b < 6 → (S 278 a ≤ S 278 b ↔ r a ≤ r b) := fun a b h h' => by
    have := hr a h
    have := hr b h'
    rw [ha a h, ha b h', nI_leI (by omega) (by omega)]
  have lpC : ∀ (k0 j0 : Nat) (R : Nat → Nat), vnx r n = some R → ∀ (f a b : Nat) (r1 : Nat → Nat) (S1 : Nat → Nat → Int32), b ≤ a + 2 * f → a < 7 → b < 6 → (∀ x, x ≠ 278 → S1 x = S x) → (∀ k, k < 6 → S1 278 k = nI (r1 k)) → vrv f r1 a b = R → am_ex (d + 2) 94 89 [some (.ref 277), some (.int (nI (n - 1))), some (.int (nI k0)), some (.int (nI j0)), some (.int (nI a)), some (.int (nI b))] [] (am_hh X S1 L) Q := by
    intro k0 j0 R hR f
    induction f with
    | zero =>
      intro a b r1 S1 hab ha7 hb hx hg e
      have c0 : nI b ≤ nI a := by rw [nI_leI (by omega) (by omega)]; omega
      have e' : r1 = R := e
      subst e'
      exact wl_nr3 (fun c => absurd c0 c) (fun c => absurd c0 c) (fun _ => hQ true S1 (Or.inr ⟨rfl, r1, hR, hx, hg⟩)) (fun c => absurd c0 c)
    | succ f ih =>
      intro a b r1 S1 hab ha7 hb hx hg e
      unfold vrv at e
      by_cases hlt : a < b
      · rw [if_pos hlt] at e
        have c0 : ¬ nI b ≤ nI a := by rw [nI_leI (by omega) (by omega)]; omega
        refine wl_nr3 (fun _ => by omega) (fun _ => hb) (fun c => absurd c c0) (fun _ => ?_)
        have eb : nI b + -1 = nI (b - 1) := by
          have := nI_dec1 (b - 1)
          rw [show b - 1 + 1 = b by omega] at this
          exact this
        rw [eb]
        refine ih (a + 1) (b - 1) _ _ (by omega) (by omega) (by omega) (fun x hx' => ?_) (sw_ag (by omega) hb hg) e
        rw [am_u_ne _ hx', am_u_ne _ hx']; exact hx x hx'
      · rw [if_neg hlt] at e
        have c0 : nI b ≤ nI a := by rw [nI_leI (by omega) (by omega)]; omega
        subst e
        exact wl_nr3 (fun c => absurd c0 c) (fun c => absurd c0 c) (fun _ => hQ true S1 (Or.inr ⟨rfl, r1, hR, hx, hg⟩)) (fun c => absurd c0 c)
  have lpB : ∀ k, vi r (n - 1) = some k → k + 1 < n → ∀ j, j ≤ n - 1 → vj r k j = vj r k (n - 1) → am_ex (d + 2) 94 49 [some (.ref 277), some (.int (nI (n - 1))), some (.int (nI k)), some (.int (nI j)), none, none] [] (am_hh X S L) Q := by
    intro k hk hkn
    have out : ∀ j, j < 6 → j = vj r k (n - 1) → am_ex (d + 2) 94 89 [some (.ref 277), some (.int (nI (n - 1))), some (.int (nI k)), some (.int (nI j)), some (.int (nI k + 1)), some (.int (nI (n - 1)))] [] (am_hh X (am_u (am_u S 278 k (S 278 j)) 278 j (S 278 k)) L) Q := by
      intro j hj e
      rw [nI_1]
      refine lpC k j (vrv 6 (vsw r k j) (k + 1) (n - 1)) ?_ 6 (k + 1) (n - 1) _ _ (by omega) (by omega) (by omega) (fun x hx => ?_) (sw_ag (by omega) hj ha) rfl
      · unfold vnx; rw [hk, e]
      · rw [am_u_ne _ hx, am_u_ne _ hx]
    intro j
    induction j with
    | zero =>
      intro _ e
      have c0 : nI 0 ≤ nI k := by rw [nI_leI (by omega) (by omega)]; omega
      exact wl_nr2 (fun _ => by omega) (fun _ => by omega) (fun c => absurd c0 c) (fun c => absurd c0 c) (fun _ => out 0 (by omega) e) (fun c => absurd c0 c) (fun c => absurd c0 c)
    | succ j ih =>
      intro hj e
      have e : (if k < j + 1 ∧ r (j + 1) < r k then vj r k j else j + 1) = vj r k (n - 1) := e
      have hc : nI (j + 1) ≤ nI k ↔ j + 1 ≤ k := nI_leI (by omega) (by omega)
      have hc2 := hcmp k (j + 1) (by omega) (by omega)
      refine wl_nr2 (fun _ => by omega) (fun _ => by omega) (fun _ => by omega) (fun _ => by omega) (fun c => ?_) (fun c c2 => ?_) (fun c c2 => ?_)
      · rw [hc] at c
        rw [if_neg (by omega)] at e
        exact out (j + 1) (by omega) e
      · rw [hc2] at c2
        rw [if_neg (by omega)] at e
        exact out (j + 1) (by omega) e
      · rw [hc] at c
        rw [hc2] at c2
        rw [if_pos (by omega)] at e
        rw [nI_dec1]
        exact ih (by omega) e
  have lpA : ∀ (k : Nat) (x : Int32), x = nI k - 1 → k ≤ n - 1 → vi r k = vi r (n - 1) → am_ex (d + 2) 94 14 [some (.ref 277), some (.int (nI (n - 1))), some (.int x), none, none, none] [] (am_hh X S L) Q := by
    intro k
    induction k with
    | zero =>
      intro x hx _ e
      have hx' : x = -1 := by rw [hx]; decide
      subst hx'
      refine wl_nr0 (hQ false S (Or.inl ⟨rfl, ?_, rfl⟩))
      unfold vnx
      rw [← e]
      rfl
    | succ k ih =>
      intro x hx hk e
      have hx' : x = nI k := by rw [hx]; exact nI_pred k
      subst hx'
      have c0 : ¬ nI k < 0 := nI_pos (by omega)
      have hc2 := hcmp k (k + 1) (by omega) (by omega)
      have hz : 0 ≤ nI k := nI_pos' (by omega)
      refine wl_nr1 (fun _ => by omega) (fun _ => by omega) (fun c => absurd c c0) (fun c => absurd c c0) (fun _ c2 _ => ?_) (fun _ _ c3 => absurd hz c3) (fun _ c2 => ?_)
      · rw [hc2] at c2
        have hv : vi r (k + 1) = some k := if_neg (by omega)
        exact lpB k (by rw [← e]; exact hv) (by omega) (n - 1) (by omega) rfl
      · rw [hc2] at c2
        have hv : vi r (k + 1) = vi r k := if_pos (by omega)
        exact ih _ (by rw [Int32.sub_eq_add_neg]) (by omega) (by rw [← hv]; exact e)
  refine wp_nr hl ?_
  rw [hl]
  exact lpA (n - 1) _ rfl (by omega) rfl
theorem mt_nextOrder (hn : S 285 7 = nI n) (h1 : 1 ≤ n) (h6 : n ≤ 6) (ha : ∀ k, k < 6 → S 297 k = nI (r k)) (hr : ∀ k, k < 6 → r k < 6) (hQ : ∀ b S', NR 297 r n S S' b → Q (some (.int (bI b))) (am_hh X S' L)) : am_mt (d + 2) 203 [.ref 285] (am_hh X S L) Q := by
  have hl : S 285 7 - 1 = nI (n - 1) := by
    rw [hn]
    have := nI_pred (n - 1)
    rw [show n - 1 + 1 = n by omega] at this
    exact this
  have hcmp : ∀ a b, a < 6 → b < 6 → (S 297 a ≤ S 297 b ↔ r a ≤ r b) := fun a b h h' => by
    have := hr a h
    have := hr b h'
    rw [ha a h, ha b h', nI_leI (by omega) (by omega)]
  have lpC : ∀ (k0 j0 : Nat) (R : Nat → Nat), vnx r n = some R → ∀ (f a b : Nat) (r1 : Nat → Nat) (S1 : Nat → Nat → Int32) (y3 : Option Value), b ≤ a + 2 * f → a < 7 → b < 6 → (∀ x, x ≠ 297 → S1 x = S x) → (∀ k, k < 6 → S1 297 k = nI (r1 k)) → vrv f r1 a b = R → am_ex (d + 2) 203 107 [some (.ref 285), some (.int (nI k0)), some (.int (nI j0)), y3, some (.int (nI a)), some (.int (nI b))] [] (am_hh X S1 L) Q := by
    intro k0 j0 R hR f
    induction f with
    | zero =>
      intro a b r1 S1 y3 hab ha7 hb hx hg e
      have c0 : nI b ≤ nI a := by rw [nI_leI (by omega) (by omega)]; omega
      have e' : r1 = R := e
      subst e'
      exact wl_mo3 (fun c => absurd c0 c) (fun c => absurd c0 c) (fun _ => hQ true S1 (Or.inr ⟨rfl, r1, hR, hx, hg⟩)) (fun c => absurd c0 c)
    | succ f ih =>
      intro a b r1 S1 y3 hab ha7 hb hx hg e
      unfold vrv at e
      by_cases hlt : a < b
      · rw [if_pos hlt] at e
        have c0 : ¬ nI b ≤ nI a := by rw [nI_leI (by omega) (by omega)]; omega
        refine wl_mo3 (fun _ => by omega) (fun _ => hb) (fun c => absurd c c0) (fun _ => ?_)
        have eb : nI b + -1 = nI (b - 1) := by
          have := nI_dec1 (b - 1)
          rw [show b - 1 + 1 = b by omega] at this
          exact this
        rw [eb]
        refine ih (a + 1) (b - 1) _ _ _ (by omega) (by omega) (by omega) (fun x hx' => ?_) (sw_ag (by omega) hb hg) e
        rw [am_u_ne _ hx', am_u_ne _ hx']; exact hx x hx'
      · rw [if_neg hlt] at e
        have c0 : nI b ≤ nI a := by rw [nI_leI (by omega) (by omega)]; omega
        subst e
        exact wl_mo3 (fun c => absurd c0 c) (fun c => absurd c0 c) (fun _ => hQ true S1 (Or.inr ⟨rfl, r1, hR, hx, hg⟩)) (fun c => absurd c0 c)
  have lpB : ∀ k, vi r (n - 1) = some k → k + 1 < n → r k ≤ r (k + 1) → ∀ j, k < j → j ≤ n - 1 → vj r k j = vj r k (n - 1) → am_ex (d + 2) 203 47 [some (.ref 285), some (.int (nI k)), some (.int (nI j)), none, none, none] [] (am_hh X S L) Q := by
    intro k hk hkn hkr
    have out : ∀ j y3, j < 6 → j = vj r k (n - 1) → am_ex (d + 2) 203 107 [some (.ref 285), some (.int (nI k)), some (.int (nI j)), y3, some (.int (nI k + 1)), some (.int (S 285 7 - 1))] [] (am_hh X (am_u (am_u S 297 k (S 297 j)) 297 j (S 297 k)) L) Q := by
      intro j y3 hj e
      rw [nI_1, hl]
      refine lpC k j (vrv 6 (vsw r k j) (k + 1) (n - 1)) ?_ 6 (k + 1) (n - 1) _ _ _ (by omega) (by omega) (by omega) (fun x hx => ?_) (sw_ag (by omega) hj ha) rfl
      · unfold vnx; rw [hk, e]
      · rw [am_u_ne _ hx, am_u_ne _ hx]
    intro j
    induction j with
    | zero => intro h; omega
    | succ j ih =>
      intro hkj hj e
      have e : (if k < j + 1 ∧ r (j + 1) < r k then vj r k j else j + 1) = vj r k (n - 1) := e
      have hc2 := hcmp k (j + 1) (by omega) (by omega)
      refine wl_mo2 hl (by omega) (by omega) (fun c2 => ?_) (fun c2 => ?_)
      · rw [hc2] at c2
        rw [if_neg (by omega)] at e
        exact out (j + 1) _ (by omega) e
      · rw [hc2] at c2
        rw [if_pos (by omega)] at e
        rw [nI_dec1]
        refine ih ?_ (by omega) e
        by_cases z : j = k
        · subst z; omega
        · omega
  have lpA : ∀ (k : Nat) (x : Int32), x = nI k - 1 → k ≤ n - 1 → vi r k = vi r (n - 1) → am_ex (d + 2) 203 7 [some (.ref 285), some (.int x), none, none, none, none] [] (am_hh X S L) Q := by
    intro k
    induction k with
    | zero =>
      intro x hx _ e
      have hx' : x = -1 := by rw [hx]; decide
      subst hx'
      refine wl_mo0 (hQ false S (Or.inl ⟨rfl, ?_, rfl⟩))
      unfold vnx
      rw [← e]
      rfl
    | succ k ih =>
      intro x hx hk e
      have hx' : x = nI k := by rw [hx]; exact nI_pred k
      subst hx'
      have c0 : ¬ nI k < 0 := nI_pos (by omega)
      have hc2 := hcmp k (k + 1) (by omega) (by omega)
      have hz : 0 ≤ nI k := nI_pos' (by omega)
      refine wl_mo1 hl (fun _ => by omega) (fun _ => by omega) (fun c => absurd c c0) (fun c => absurd c c0) (fun _ c2 _ => ?_) (fun _ _ c3 => absurd hz c3) (fun _ c2 => ?_)
      · rw [hc2] at c2
        have hv : vi r (k + 1) = some k := if_neg (by omega)
        rw [hl]
        exact lpB k (by rw [← e]; exact hv) (by omega) c2 (n - 1) (by omega) (by omega) rfl
      · rw [hc2] at c2
        have hv : vi r (k + 1) = vi r k := if_pos (by omega)
        exact ih _ (by rw [Int32.sub_eq_add_neg]) (by omega) (by rw [← hv]; exact e)
  refine wp_mo (lpA (n - 1) _ ?_ (by omega) rfl)
  rw [← hl, hn, Int32.sub_eq_add_neg, Int32.sub_eq_add_neg, Int32.sub_eq_add_neg, Int32.add_assoc]
  rfl
theorem kt_first (hn : S 20 4 = nI n) (h1 : 1 ≤ n) (h6 : n ≤ 6) (ha : ∀ k, k < 6 → S 278 k = nI (r k)) (hr : ∀ k, k < 6 → r k < 6) (hQ : Q (some (.int (bI (vf (S 25) r (n - 1) 0)))) (am_hh X S L)) : am_mt (d + 2) 90 [.ref 277] (am_hh X S L) Q := by
  have key : ∀ (k i : Nat) (y2 y3 : Option Value), i + k = n - 1 → Q (some (.int (bI (vf (S 25) r k i)))) (am_hh X S L) → am_ex (d + 2) 90 2 [some (.ref 277), some (.int (nI i)), y2, y3] [] (am_hh X S L) Q := by
    intro k
    induction k with
    | zero =>
      intro i y2 y3 hi hq
      have c0 : S 20 4 ≤ nI i + 1 := by
        rw [hn, nI_1, show i + 1 = n by omega]; exact Int32.le_rfl
      exact wl_fst (a := 0) (b := 0) (fun c => absurd c0 c) (fun c => absurd c0 c) (fun c => absurd c0 c) (fun c => absurd c0 c) (fun c => absurd c0 c) (fun c => absurd c0 c) (fun _ => hq) (fun c => absurd c0 c) (fun c => absurd c0 c) (fun c => absurd c0 c) (fun c => absurd c0 c)
    | succ k ih =>
      intro i y2 y3 hi hq
      have c0 : ¬ S 20 4 ≤ nI i + 1 := by
        rw [hn, nI_1, nI_leI (by omega) (by omega)]; omega
      have r1 := hr i (by omega)
      have r2 := hr (i + 1) (by omega)
      have hc : S 278 i ≤ S 278 (i + 1) ↔ r i ≤ r (i + 1) := by
        rw [ha i (by omega), ha (i + 1) (by omega), nI_leI (by omega) (by omega)]
      unfold vf at hq
      refine wl_fst (a := r i) (b := r (i + 1)) (fun _ => ha i (by omega)) (fun _ => ha (i + 1) (by omega)) (fun _ => by omega) (fun _ => by omega) (fun _ _ => r1) (fun _ _ _ => r2) (fun c => absurd c c0) (fun _ c => ?_) (fun _ c c2 => ?_) (fun _ c c2 c3 => ?_) (fun _ c c2 c3 => ?_)
      · rw [hc] at c
        rw [if_neg (fun z => by have := z.1; omega)] at hq
        exact ih (i + 1) _ _ (by omega) hq
      · rw [hc] at c
        rw [if_pos ⟨by omega, Or.inl c2⟩] at hq
        exact hq
      · rw [if_neg (fun z => z.2.elim (fun q => q c2) (fun q => q c3))] at hq
        exact ih (i + 1) _ _ (by omega) hq
      · rw [hc] at c
        rw [if_pos ⟨by omega, Or.inr c3⟩] at hq
        exact hq
  exact wp_fst (key (n - 1) 0 _ _ (by omega) hQ)
def TR (g n m : Nat) (S S' : Nat → Nat → Int32) : Prop := (∀ a, a ≠ 277 → a ≠ 279 → ¬ (29 ≤ a ∧ a < 38) → S' a = S a) ∧ w_cl (am_sub S' 29) ∧ (∀ i, i ≠ 6 → i ≠ 4 → S' 277 i = S 277 i) ∧ (S' 277 6, S' 277 4, S' 279) = oc_try (am_sub S 20) g n m (S 278) (S 277 6, S 277 4, S 279)
theorem kt_tryRank (hm : m < 1000) (hf : wF (am_sub S 20) g n) (hc9 : w_cl (am_sub S 29)) (hc0 : w_cl (am_sub S 20)) (hQ : ∀ S', TR g n m S S' → Q none (am_hh X S' L)) : am_mt (d + 5) 91 [.ref 277, .int (nI m)] (am_hh X S L) Q := by
  have key : ∀ (k i : Nat) (W : Nat → Nat → Int32) (y3 : Option Value), i + k = m → wF W g n → w_cl W → w_it (S 278) g n k W = w_it (S 278) g n m (am_sub S 20) → am_ex (d + 5) 91 13 [some (.ref 277), some (.int (nI m)), some (.int (nI i)), y3] [] (am_hh X (am_ovl S 29 W) L) Q := by
    intro k
    induction k with
    | zero =>
      intro i W y3 hi hw hc e
      have e' : W = w_it (S 278) g n m (am_sub S 20) := e
      obtain ⟨T, hT, hTw, -⟩ := wh_T W 2 hw.2.1
      have hT64 := p2_64 hw.2.1 hT
      have c0 : nI m ≤ nI i := by rw [show i = m by omega]; exact Int32.le_rfl
      have eo : oc_off (am_sub S 20) g n m (S 278) = nI (pcnt T) := by
        unfold oc_off
        rw [← e', hTw, w_bits_n hT64]
      have er : oc_rid (am_sub S 20) g n m (S 278) = w_sum (W 7) n 0 0 := by
        unfold oc_rid
        rw [← e']
      have better : ∀ S', S' = am_uc (am_ovl (am_u (am_u S 277 6 (nI (pcnt T))) 277 4 (w_sum (W 7) n 0 0)) 29 W) 279 (va_cpy (S 278) (S 279) 0 0 6) → (S 277 6 < nI (pcnt T) ∨ (nI (pcnt T) = S 277 6 ∧ S 277 4 < w_sum (W 7) n 0 0)) → TR g n m S S' := by
        intro S' eS hb
        subst eS
        refine ⟨fun a a1 a2 a3 => ?_, ?_, fun i i1 i2 => ?_, ?_⟩
        · rw [am_uc_ne _ a2, am_ovl_ne _ _ (by omega), am_u_ne _ a1, am_u_ne _ a1]
        · rw [am_sub_c (S' := am_uc (am_ovl (am_u (am_u S 277 6 (nI (pcnt T))) 277 4 (w_sum (W 7) n 0 0)) 29 W) 279 (va_cpy (S 278) (S 279) 0 0 6)) (S := am_ovl (am_u (am_u S 277 6 (nI (pcnt T))) 277 4 (w_sum (W 7) n 0 0)) 29 W) (fun a h1 h2 => am_uc_ne _ (by omega)), am_sub_s _ hc]
          exact hc
        · rw [am_uc_ne _ (by omega), am_ovl_ne _ _ (by omega), am_u_ni _ i2, am_u_ni _ i1]
        · unfold oc_try
          rw [eo, er, if_pos hb]
          rfl
      have same : ¬ (S 277 6 < nI (pcnt T) ∨ (nI (pcnt T) = S 277 6 ∧ S 277 4 < w_sum (W 7) n 0 0)) → TR g n m S (am_ovl S 29 W) := by
        intro hb
        refine ⟨fun a a1 a2 a3 => am_ovl_ne _ _ (by omega), by rw [am_sub_s _ hc]; exact hc, fun i _ _ => by rw [am_ovl_ne _ _ (by omega)], ?_⟩
        unfold oc_try
        rw [eo, er, if_neg hb]
        rfl
      refine wl_try hw hTw hT64 (fun _ c1 => hQ _ (better _ rfl (Or.inl c1))) (fun _ c1 c2 => hQ _ (same (fun z => z.elim c1 (fun q => c2 q.1)))) (fun _ c1 c2 c3 => hQ _ (same (fun z => z.elim c1 (fun q => Int32.not_lt.mpr c3 q.2)))) (fun _ c1 c2 c3 => hQ _ (better _ rfl (Or.inr ⟨c2, Int32.not_le.mp c3⟩))) (fun c => absurd c0 c)
    | succ k ih =>
      intro i W y3 hi hw hc e
      obtain ⟨T, hT, hTw, -⟩ := wh_T W 2 hw.2.1
      have c0 : ¬ nI m ≤ nI i := by rw [nI_leI (by omega) (by omega)]; omega
      exact wl_try hw hTw (p2_64 hw.2.1 hT) (fun c => absurd c c0) (fun c => absurd c c0) (fun c => absurd c c0) (fun c => absurd c c0) (fun _ => ih (i + 1) _ _ (by omega) (wF_ms hw) (w_cl_ms hw hc) e)
  exact wp_try hc9 hc0 (key m 0 _ _ (by omega) hf hc0 rfl)
end ORD2
