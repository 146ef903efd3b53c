section OUTC
variable {d : Nat} {X : Nat × (Nat → Int32)} {S : Nat → Nat → Int32} {L : Nat → Int64} {g n N m : Nat} {Q : Option Value → am_H → Prop}
/-- nothing is changed but the outcomes -/
def B82 (S S1 : Nat → Nat → Int32) : Prop := ∀ a, a ≠ 282 → S1 a = S a
theorem B82_20 {S1 : Nat → Nat → Int32} (h : B82 S S1) : am_sub S1 20 = am_sub S 20 := am_sub_c (fun a h1 h2 => h a (by omega))
theorem B82_u {S1 : Nat → Nat → Int32} {l : Nat} {v : Int32} (h : B82 S S1) : B82 S (am_u S1 282 l v) := fun a ha => (am_u_ne S1 ha).trans (h a ha)
theorem am_u_self (S1 : Nat → Nat → Int32) (c l : Nat) (v : Int32) : am_u S1 c l v c = upd (S1 c) l v := if_pos rfl
theorem kt_oc (hR0 : mB (am_sub S 20) g n) (hG0 : wB (am_sub S 20)) (hN4 : N ≤ 4) (hm20 : m ≤ 20) (hc9 : w_cl (am_sub S 29)) (hc0 : w_cl (am_sub S 20)) (hQ : ∀ S1, FR S S1 → Q (some (.int (bt_res (w_wv (am_sub S 20) g n N m) N (S 282)))) (am_hh X S1 L)) : am_mt (d + 9) 108 [.ref 281, .int (nI N), .int (nI m)] (am_hh X S L) Q := by
  have inner : ∀ (k l t : Nat) (S1 W1 : Nat → Nat → Int32) (f : Nat → Int32) (y5 y6 : Option Value), l + k = 2 ^ t → t < 4 → B82 S S1 → S1 282 = f → w_cl W1 → (∀ (S2 W2 : Nat → Nat → Int32) (y4 y5 y6 : Option Value), B82 S S2 → S2 282 = bt_in t k l f → w_cl W2 → am_ex (d + 9) 108 32 [some (.ref 281), some (.int (nI N)), some (.int (nI m)), some (.int (nI t - 1)), y4, y5, y6] [] (am_hh X (am_ovl S2 29 W2) L) Q) → am_ex (d + 9) 108 39 [some (.ref 281), some (.int (nI N)), some (.int (nI m)), some (.int (nI t)), some (.int (nI l)), y5, y6] [] (am_hh X (am_ovl S1 29 W1) L) Q := by
    intro k
    induction k with
    | zero =>
      intro l t S1 W1 f y5 y6 hl ht hB hS hc hk
      have e2 := shl1 t (by omega)
      have h16 : 2 ^ t ≤ 2 ^ 3 := Nat.pow_le_pow_right (by omega) (by omega)
      have c0 : (1 : Int32) <<< (nI t &&& 31) ≤ nI l := by rw [e2]; exact nI_le (by omega) (by omega)
      refine wl_oc3 (fun c => absurd c0 c) (fun c => absurd c0 c) (fun c => absurd c0 c) (fun c => absurd c0 c) (fun _ => ?_) (fun c => absurd c0 c) (fun c => absurd c0 c)
      have := hk S1 W1 (some (.int (nI l))) y5 y6 hB hS hc
      rw [Int32.sub_eq_add_neg] at this
      exact this
    | succ k ih =>
      intro l t S1 W1 f y5 y6 hl ht hB hS hc hk
      have e2 := shl1 t (by omega)
      have h16 : 2 ^ t ≤ 2 ^ 3 := Nat.pow_le_pow_right (by omega) (by omega)
      have c0 : ¬ (1 : Int32) <<< (nI t &&& 31) ≤ nI l := by rw [e2]; exact nI_ge (by omega) (by omega)
      have ea : nI t &&& 1 = nI (t % 2) := pk_andN (by omega) 1 (by decide)
      refine wl_oc3 (fun _ => by omega) (fun _ => by omega) (fun _ _ => by omega) (fun _ _ => by omega) (fun c => absurd c c0) (fun _ c => ?_) (fun _ c => ?_)
      · rw [ea, show (0 : Int32) = nI 0 from rfl, nI_eq (by omega) (by omega)] at c
        refine ih (l + 1) t _ W1 (upd f l (bt_mx t (f (2 * l)) (f (2 * l + 1)))) _ _ (by omega) ht (B82_u hB) ?_ hc hk
        rw [am_u_self, hS]
        unfold bt_mx
        rw [if_neg c]
      · rw [ea, show (0 : Int32) = nI 0 from rfl, nI_eq (by omega) (by omega)] at c
        refine ih (l + 1) t _ W1 (upd f l (bt_mx t (f (2 * l)) (f (2 * l + 1)))) _ _ (by omega) ht (B82_u hB) ?_ hc hk
        rw [am_u_self, hS]
        unfold bt_mx
        rw [if_pos c]
  have outer : ∀ (t : Nat) (S1 W1 : Nat → Nat → Int32) (f : Nat → Int32) (y4 y5 y6 : Option Value), t ≤ 4 → B82 S S1 → S1 282 = f → w_cl W1 → bt_out t f 0 = bt_res (w_wv (am_sub S 20) g n N m) N (S 282) → am_ex (d + 9) 108 32 [some (.ref 281), some (.int (nI N)), some (.int (nI m)), some (.int (nI t - 1)), y4, y5, y6] [] (am_hh X (am_ovl S1 29 W1) L) Q := by
    intro t
    induction t with
    | zero =>
      intro S1 W1 f y4 y5 y6 ht hB hS hc he
      refine wl_oc2x (fun _ => ?_) (fun c => absurd (by decide) c)
      rw [hS]
      have e : f 0 = bt_res (w_wv (am_sub S 20) g n N m) N (S 282) := he
      rw [e]
      refine hQ _ ?_
      have h1 := FR_o (S := S1) hc
      exact ⟨fun a ha => (h1.1 a ha).trans (hB a (by unfold scr at ha; omega)), by rw [h1.2.1, hB 277 (by omega)], by rw [h1.2.2.1, hB 277 (by omega)], h1.2.2.2⟩
    | succ t ih =>
      intro S1 W1 f y4 y5 y6 ht hB hS hc he
      rw [nI_pred]
      refine wl_oc2 (fun c => absurd c (nI_pos (by omega))) (fun _ => ?_)
      exact inner (2 ^ t) 0 t S1 W1 f y5 y6 (by omega) (by omega) hB hS hc (fun S2 W2 y4 y5 y6 q1 q2 q3 => ih S2 W2 _ y4 y5 y6 (by omega) q1 q2 q3 he)
  have fill : ∀ (k l : Nat) (S1 W1 : Nat → Nat → Int32) (f : Nat → Int32), l + k = 2 ^ N → B82 S S1 → S1 282 = f → w_cl W1 → bt_fill (w_wv (am_sub S 20) g n N m) k l f = bt_fill (w_wv (am_sub S 20) g n N m) (2 ^ N) 0 (S 282) → am_ex (d + 9) 108 2 [some (.ref 281), some (.int (nI N)), some (.int (nI m)), some (.int (nI l)), none, none, none] [] (am_hh X (am_ovl S1 29 W1) L) Q := by
    intro k
    induction k with
    | zero =>
      intro l S1 W1 f hl hB hS hc he
      have e20 := B82_20 hB
      have e2 := shl1 N (by omega)
      have h16 : 2 ^ N ≤ 2 ^ 4 := Nat.pow_le_pow_right (by omega) (by omega)
      have c0 : (1 : Int32) <<< (nI N &&& 31) ≤ nI l := by rw [e2]; exact nI_le (by omega) (by omega)
      refine wl_oc1 (g := g) (n := n) (by rw [e20]; exact hR0) (by rw [e20]; exact hG0) hN4 hm20 hc (by rw [e20]; exact hc0) (fun c => absurd c0 c) (fun _ => ?_) (fun c => absurd c0 c)
      exact outer N S1 W1 f none none none hN4 hB hS hc (by unfold bt_res; rw [← he]; rfl)
    | succ k ih =>
      intro l S1 W1 f hl hB hS hc he
      have e20 := B82_20 hB
      have e2 := shl1 N (by omega)
      have h16 : 2 ^ N ≤ 2 ^ 4 := Nat.pow_le_pow_right (by omega) (by omega)
      have c0 : ¬ (1 : Int32) <<< (nI N &&& 31) ≤ nI l := by rw [e2]; exact nI_ge (by omega) (by omega)
      refine wl_oc1 (g := g) (n := n) (by rw [e20]; exact hR0) (by rw [e20]; exact hG0) hN4 hm20 hc (by rw [e20]; exact hc0) (fun _ _ _ => by omega) (fun c => absurd c c0) (fun _ W2 hw2 => ?_)
      refine ih (l + 1) _ W2 (upd f l (w_wv (am_sub S 20) g n N m l)) (by omega) (B82_u hB) ?_ hw2 he
      rw [am_u_self, hS, e20]
  have := fill (2 ^ N) 0 S (am_sub S 29) (S 282) (by omega) (fun _ _ => rfl) rfl hc9 rfl
  rw [am_ovl_sub] at this
  have h2 := wp_oc (d := d) (X := X) (S := S) (L := L) (N := N) (m := m) (W1 := am_sub S 29) (Q := Q)
  rw [am_ovl_sub] at h2
  exact h2 this
end OUTC
