theorem kt_wo {d : Nat} {X : Nat × (Nat → Int32)} {S W : Nat → Nat → Int32} {L : Nat → Int64} {g n N m c : Nat} {Q : Option Value → am_H → Prop} (hR0 : mR W S 293 g n) (hB : mB W g n) (hG0 : wB W) (hN4 : N ≤ 4) (hm20 : m ≤ 20) (hK : JK S) (hQ : ∀ S2, F8 S S2 → Q (some (.int (w_wv W g n N m c))) (am_hh X S2 L)) : am_mt (d + 6) 211 [.ref 285, .int (nI c), .int (nI N), .int (nI m)] (am_hh X S L) Q := by
  have moves : ∀ (k j : Nat) (V S1 : Nat → Nat → Int32) (y5 y6 : Option Value), j + k = N → mR V S1 298 g n → wB V → F8 S S1 → (∀ S2, F8 S S2 → Q (some (.int (w_sum (w_it rk0 g n m (w_mvs N c k j V) 7) n 0 0))) (am_hh X S2 L)) → am_ex (d + 6) 211 7 [some (.ref 285), some (.int (nI c)), some (.int (nI N)), some (.int (nI m)), some (.int (nI j)), y5, y6] [] (am_hh X S1 L) Q := by
    intro k
    induction k with
    | zero =>
      intro j V S1 y5 y6 hj hm hG hf hQ
      obtain ⟨b, hb, e1, e2⟩ := hm.2.2.1
      have c0 : nI N ≤ nI j := nI_le (by omega) (by omega)
      exact wl_wo1 hR0 hK hm hf e2 (fun _ => by omega) (fun c => absurd c0 c) (fun c => absurd c0 c) (fun _ S2 hm2 hf2 => hQ S2 (F8_t hf hf2)) (fun c => absurd c0 c) (fun c => absurd c0 c) (fun c => absurd c0 c) (fun c => absurd c0 c)
    | succ k ih =>
      intro j V S1 y5 y6 hj hm hG hf hQ
      obtain ⟨b, hb, e1, e2⟩ := hm.2.2.1
      have hg := hm.2.1
      have c0 : ¬ nI N ≤ nI j := nI_ge (by omega) (by omega)
      have ec : (V 0 2).toNatClampNeg = b := by rw [e1]; exact nI_clamp (by omega)
      have ej : nI j - nI j / 2 * 2 = nI (j % 2) := pk_rem (d := 2) (by omega) (by omega) (by omega)
      have eb := hm.2.2.2.2.2.1 b (by omega)
      obtain ⟨x, hx, ex⟩ := hG b (by omega)
      obtain ⟨v, hv, v1, v2⟩ := wB_v x hx
      unfold w_mvs at hQ
      rw [ec] at hQ
      refine wl_wo1 hR0 hK hm hf e2 (fun _ => by omega) (fun _ _ _ => ?_) (fun _ _ _ => by omega) (fun c => absurd c c0) (fun _ c => ?_) (fun _ c c2 => ?_) (fun _ c c2 c3 => ?_) (fun _ c c2 c3 => ?_)
      · rw [hg.2.1]; exact nI_ne0 (by omega) (by omega)
      · rw [if_neg c] at hQ
        exact ih (j + 1) V S1 _ _ (by omega) hm hG hf hQ
      · rw [ej, show (0 : Int32) = nI 0 from rfl, nI_eq (by omega) (by omega)] at c2
        rw [if_pos c] at hQ
        obtain ⟨b1, hb1, n1, n2⟩ := mR_nb hm
        have hm2 := mR_bt (Or.inr rfl) hm hb1
        have e0 : w_mv V b j = am_u V 0 2 (w_nb V) := by unfold w_mv; rw [if_neg c2]
        rw [← n2] at hm2
        refine ih (j + 1) _ _ _ _ (by omega) ?_ (wB_mv hG (by omega)) (F8_u hf) hQ
        rw [e0, n1, ← n2]
        exact hm2
      · rw [ej, show (0 : Int32) = nI 0 from rfl, nI_eq (by omega) (by omega)] at c2
        rw [if_pos c] at hQ
        rw [eb, ex] at c3 ⊢
        rw [if_pos c3] at v2
        have e0 : w_mv V b j = am_u V 1 b (nI x + 3) := by unfold w_mv; rw [if_pos c2, ex, v1, v2]
        refine ih (j + 1) _ _ _ _ (by omega) ?_ (wB_mv hG (by omega)) (F8_u hf) hQ
        rw [e0]
        exact mR_bal (Or.inr rfl) hm (by omega)
      · rw [ej, show (0 : Int32) = nI 0 from rfl, nI_eq (by omega) (by omega)] at c2
        rw [if_pos c] at hQ
        rw [eb, ex] at c3
        rw [if_neg c3] at v2
        have e0 : w_mv V b j = am_u V 1 b 9 := by unfold w_mv; rw [if_pos c2, ex, v1, v2]
        refine ih (j + 1) _ _ _ _ (by omega) ?_ (wB_mv hG (by omega)) (F8_u hf) hQ
        rw [e0]
        exact mR_bal (Or.inr rfl) hm (by omega)
  exact wp_wo hR0 hK (fun S1 hm hf => moves N 0 W S1 none none (by omega) hm hG0 hf hQ)
