section LOAD
def ld_e (m : Nat) (st : Option (Nat × Nat)) : Nat := match st with
  | none => m + 1
  | some (_, y) => y
def ld_b (st : Option (Nat × Nat)) : Int32 := match st with
  | none => -1000000
  | some (x, _) => nI x
theorem ld_s_eq {m cnt : Nat} (st : Option (Nat × Nat)) (code : Nat) (h : cnt ≤ m) : ld_s st code cnt = if cnt < ld_e m st then some (code, cnt) else st := by
  unfold ld_s ld_e
  cases st with
  | none => dsimp only; rw [if_pos (by omega)]
  | some q => rfl
variable {d : Nat} {X : Nat × (Nat → Int32)} {S : Nat → Nat → Int32} {L : Nat → Int64} {g n : Nat} {Q : Option Value → am_H → Prop}
theorem kt_limit {t : Nat} (ht : t < 1000) (hf : wF (am_sub S 20) g n) (hc9 : w_cl (am_sub S 29)) (hc0 : w_cl (am_sub S 20)) (hQ : ∀ W1, w_cl W1 → Q (some (.int (w_br (am_sub S 20) g n t 99 1))) (am_hh X (am_ovl S 29 W1) L)) : am_mt (d + 7) 100 [.ref 277, .int (nI t)] (am_hh X S L) Q := by
  have key : ∀ (k v : Nat) (W1 : Nat → Nat → Int32), v + k = 100 → w_cl W1 → (∀ W2, w_cl W2 → Q (some (.int (w_br (am_sub S 20) g n t k v))) (am_hh X (am_ovl S 29 W2) L)) → am_ex (d + 7) 100 2 [some (.ref 277), some (.int (nI t)), some (.int (nI v))] [] (am_hh X (am_ovl S 29 W1) L) Q := by
    intro k
    induction k with
    | zero =>
      intro v W1 hv hc hQ
      have : v = 100 := by omega
      subst this
      exact wl_limit hf hc hc0 (fun _ => ht) (fun _ => hQ _ hc) (fun c => absurd (by decide) c) (fun c => absurd (by decide) c)
    | succ k ih =>
      intro v W1 hv hc hQ
      have hf2 : wF (am_u (am_sub S 20) 0 1 (nI v)) g n := wF_u hf (by omega)
      have hc2 : w_cl (am_u (am_sub S 20) 0 1 (nI v)) := w_cl_u hc0 (show 1 < 5 by decide)
      have e : (w_sk rk0 g n 1 t 0 (am_u (am_sub S 20) 0 1 (nI v))).1 = nI (min (0 + w_cn rk0 g n t (am_u (am_sub S 20) 0 1 (nI v))) 1) := w_sk_cn (e := 1) (by omega) t _ 0 (by omega) (by omega)
      have hcs := w_sk_cl (rk := rk0) (en := 1) (k := t) (a := 0) hf2 hc2
      refine wl_limit hf hc hc0 (fun _ => ht) (fun c => absurd c (nI_nlt (a := 99) (by omega) (by omega))) (fun _ c => ih (v + 1) _ (by omega) hcs (fun W2 h2 => ?_)) (fun _ c => ?_)
      · have := hQ W2 h2
        unfold w_br at this
        rw [if_neg] at this
        · exact this
        · intro z
          rw [e, z] at c
          exact c (by decide)
      · have := hQ _ hcs
        unfold w_br at this
        rw [if_pos] at this
        · exact this
        · rw [e, show (0 : Int32) = nI 0 from rfl, nI_eq (by omega) (by omega)] at c
          omega
  refine wp_limit ?_
  have := key 99 1 (am_sub S 29) (by omega) hc9 hQ
  rw [am_ovl_sub] at this
  exact this
/-- nothing is changed but what is best so far -/
def B77 (S S1 : Nat → Nat → Int32) : Prop := (∀ a, a ≠ 277 → S1 a = S a) ∧ S1 277 3 = S 277 3 ∧ S1 277 6 = S 277 6
theorem B77_20 {S1 : Nat → Nat → Int32} (h : B77 S S1) : am_sub S1 20 = am_sub S 20 := am_sub_c (fun a h1 h2 => h.1 a (by omega))
theorem B77_FR {S1 W1 : Nat → Nat → Int32} (h : B77 S S1) (hc : w_cl W1) : FR S (am_ovl S1 29 W1) := by
  have h1 := FR_o (S := S1) hc
  refine ⟨fun a ha => (h1.1 a ha).trans (h.1 a (by unfold scr at ha; omega)), h.2.1, h.2.2, h1.2.2.2⟩
theorem kt_load {t : Nat} (ht : t < 1000) (hf : wF (am_sub S 20) g n) (hc9 : w_cl (am_sub S 29)) (hc0 : w_cl (am_sub S 20)) (hQ : ∀ S1 st, ld_g (am_sub S 20) g n t g 0 none = st → (S1 277 7 = ld_b st ∧ S1 277 8 = nI (ld_e t st)) → FR S S1 → Q none (am_hh X S1 L)) : am_mt (d + 7) 97 [.ref 277, .int (nI t)] (am_hh X S L) Q := by
  have hg12 := hf.2.2.2
  have inner : ∀ (k v j : Nat) (st : Option (Nat × Nat)) (S1 W1 : Nat → Nat → Int32) (x4 : Option Value), v + k = 10 → j < 12 → B77 S S1 → (S1 277 7 = ld_b st ∧ S1 277 8 = nI (ld_e t st) ∧ ld_e t st ≤ t + 1) → w_cl W1 → (∀ (S2 W2 : Nat → Nat → Int32) (y3 y4 : Option Value), B77 S S2 → (S2 277 7 = ld_b (ld_v (am_sub S 20) g n t j k v st) ∧ S2 277 8 = nI (ld_e t (ld_v (am_sub S 20) g n t j k v st)) ∧ ld_e t (ld_v (am_sub S 20) g n t j k v st) ≤ t + 1) → w_cl W2 → am_ex (d + 7) 97 15 [some (.ref 277), some (.int (nI t)), some (.int (nI (j + 1))), y3, y4] [] (am_hh X (am_ovl S2 29 W2) L) Q) → am_ex (d + 7) 97 28 [some (.ref 277), some (.int (nI t)), some (.int (nI j)), some (.int (nI v)), x4] [] (am_hh X (am_ovl S1 29 W1) L) Q := by
    intro k
    induction k with
    | zero =>
      intro v j st S1 W1 x4 hv hj hB hst hc hk
      have e20 := B77_20 hB
      have : v = 10 := by omega
      subst this
      exact wl_load2 (by rw [e20]; exact hf) hc (by rw [e20]; exact hc0) (fun _ => hj) (fun _ => ht) (fun _ => hk _ _ _ _ hB hst hc) (fun c => absurd (by decide) c) (fun c => absurd (by decide) c)
    | succ k ih =>
      intro v j st S1 W1 x4 hv hj hB hst hc hk
      have e20 := B77_20 hB
      have hf2 : wF (am_u (am_sub S 20) 1 j (nI v)) g n := wF_u hf (by omega)
      have hc2 : w_cl (am_u (am_sub S 20) 1 j (nI v)) := w_cl_u hc0 hj
      have hcs := w_sk_cl (rk := rk0) (en := nI (ld_e t st)) (k := t) (a := 0) hf2 hc2
      have e : (w_sk rk0 g n (nI (ld_e t st)) t 0 (am_u (am_sub S 20) 1 j (nI v))).1 = _ := w_sk_cn (rk := rk0) (g := g) (n := n) (e := ld_e t st) (by omega) t (am_u (am_sub S 20) 1 j (nI v)) 0 (by omega) (by omega)
      have hcl := w_cn_le (rk := rk0) (g := g) (n := n) t (am_u (am_sub S 20) 1 j (nI v))
      have es := ld_s_eq st (10 * j + v) hcl
      have ht1 : ld_e t st ≤ t + 1 := hst.2.2
      refine wl_load2 (by rw [e20]; exact hf) hc (by rw [e20]; exact hc0) (fun _ => hj) (fun _ => ht) (fun c => absurd c (nI_nlt (a := 9) (by omega) (by omega))) (fun _ c => ?_) (fun _ c => ?_)
      · rw [hst.2.1, e20] at c ⊢
        rw [e, nI_leI (by omega) (by omega)] at c
        refine ih (v + 1) j st S1 _ _ (by omega) hj hB hst hcs (fun S2 W2 y3 y4 q1 q2 q3 => hk S2 W2 y3 y4 q1 ?_ q3)
        unfold ld_v
        rw [es, if_neg (by omega)]
        exact q2
      · rw [hst.2.1, e20] at c ⊢
        rw [e, nI_leI (by omega) (by omega)] at c
        have em : min (0 + w_cn rk0 g n t (am_u (am_sub S 20) 1 j (nI v))) (ld_e t st) = w_cn rk0 g n t (am_u (am_sub S 20) 1 j (nI v)) := by omega
        refine ih (v + 1) j (some (10 * j + v, w_cn rk0 g n t (am_u (am_sub S 20) 1 j (nI v)))) _ _ _ (by omega) hj ⟨fun a ha => ?_, hB.2.1, hB.2.2⟩ ⟨?_, ?_, ?_⟩ hcs (fun S2 W2 y3 y4 q1 q2 q3 => hk S2 W2 y3 y4 q1 ?_ q3)
        · rw [am_u_ne _ ha, am_u_ne _ ha]; exact hB.1 a ha
        · show (10 : Int32) * nI j + nI v = nI (10 * j + v)
          rw [show (10 : Int32) = nI 10 from rfl, pk_mul, nI_add]
        · show (w_sk rk0 g n (nI (ld_e t st)) t 0 (am_u (am_sub S 20) 1 j (nI v))).1 = _
          rw [e, em]
          rfl
        · show w_cn rk0 g n t (am_u (am_sub S 20) 1 j (nI v)) ≤ t + 1
          omega
        · unfold ld_v
          rw [es, if_pos (by omega)]
          exact q2
  have outer : ∀ (k j : Nat) (st : Option (Nat × Nat)) (S1 W1 : Nat → Nat → Int32) (x3 x4 : Option Value), j + k = g → B77 S S1 → (S1 277 7 = ld_b st ∧ S1 277 8 = nI (ld_e t st) ∧ ld_e t st ≤ t + 1) → w_cl W1 → (ld_g (am_sub S 20) g n t k j st = ld_g (am_sub S 20) g n t g 0 none) → am_ex (d + 7) 97 15 [some (.ref 277), some (.int (nI t)), some (.int (nI j)), x3, x4] [] (am_hh X (am_ovl S1 29 W1) L) Q := by
    intro k
    induction k with
    | zero =>
      intro j st S1 W1 x3 x4 hj hB hst hc hk
      have e0 : S1 20 0 = nI g := by rw [hB.1 20 (by omega)]; exact hf.2.2.1
      refine wl_load1 (fun _ => hQ _ st hk.symm ⟨hst.1, hst.2.1⟩ (B77_FR hB hc)) (fun c => absurd (by rw [e0]; exact nI_le (by omega) (by omega)) c)
    | succ k ih =>
      intro j st S1 W1 x3 x4 hj hB hst hc hk
      have e0 : S1 20 0 = nI g := by rw [hB.1 20 (by omega)]; exact hf.2.2.1
      refine wl_load1 (fun c => absurd c (by rw [e0]; exact nI_ge (by omega) (by omega))) (fun _ => ?_)
      exact inner 9 1 j st S1 W1 x4 (by omega) (by omega) hB hst hc (fun S2 W2 y3 y4 q1 q2 q3 => ih (j + 1) _ S2 W2 y3 y4 (by omega) q1 q2 q3 hk)
  refine wp_load ?_
  have := outer g 0 none (am_u (am_u S 277 7 (-1000000)) 277 8 (nI t + 1)) (am_sub S 29) none none (by omega) ⟨fun a ha => by rw [am_u_ne _ ha, am_u_ne _ ha], rfl, rfl⟩ ⟨rfl, nI_1 t, Nat.le_refl _⟩ hc9 rfl
  rw [← am_ovl_u (am_u S 277 7 (-1000000)) (am_sub S 29) 8 (nI t + 1) (Or.inr (by decide)), ← am_ovl_u S (am_sub S 29) 7 (-1000000) (Or.inr (by decide)), am_ovl_sub] at this
  exact this
end LOAD
