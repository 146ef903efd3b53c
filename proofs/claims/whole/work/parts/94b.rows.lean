theorem kt_make {d : Nat} {X : Nat × (Nat → Int32)} {S : Nat → Nat → Int32} {L : Nat → Int64} {q : Int32} {r c : Nat} {Q : Option Value → am_H → Prop} (hr : r < 8) (hc : c < 41) (hQ : ∀ S', (∀ i, i < 40 → S' (8 + 1 * r) i = if i < c then 0 else S (8 + 1 * r) i) → (∀ a, a ≠ 8 + 1 * r → S' a = (am_u (am_u S 16 r q) 17 r (nI c)) a) → Q none (am_hh X S' L)) : am_mt d 14 [.ref 6, .int (nI r), .int q, .int (nI c)] (am_hh X S L) Q := by
  have key : ∀ (k j : Nat) (S1 : Nat → Nat → Int32), j + k = c → (∀ i, i < 40 → S1 (8 + 1 * r) i = if i < j then 0 else S (8 + 1 * r) i) → (∀ a, a ≠ 8 + 1 * r → S1 a = (am_u (am_u S 16 r q) 17 r (nI c)) a) → am_ex d 14 17 [some (.ref 6), some (.int (nI r)), some (.int q), some (.int (nI c)), some (.int (nI j))] [] (am_hh X S1 L) Q := by
    intro k
    induction k with
    | zero =>
      intro j S1 hj h1 h2
      have : j = c := by omega
      subst this
      exact wl_make (fun _ => hr) (fun c => absurd (nI_le (by omega) (by omega)) c) (fun _ => hQ S1 h1 h2) (fun c => absurd (nI_le (by omega) (by omega)) c)
    | succ k ih =>
      intro j S1 hj h1 h2
      refine wl_make (fun _ => hr) (fun _ => by omega) (fun c => absurd c (nI_ge (by omega) (by omega))) (fun _ => ih (j + 1) _ (by omega) (fun i hi => ?_) (fun a ha => (am_u_ne S1 ha).trans (h2 a ha)))
      rw [am_u_at]
      by_cases z : i = j
      · rw [if_pos ⟨rfl, z⟩, if_pos (by omega)]
      · rw [if_neg (fun w => z w.2), h1 i hi]
        by_cases z2 : i < j
        · rw [if_pos z2, if_pos (by omega)]
        · rw [if_neg z2, if_neg (by omega)]
  refine wp_make hr (key c 0 _ (by omega) (fun i hi => ?_) (fun a ha => rfl))
  rw [if_neg (by omega), am_u_ne _ (by omega), am_u_ne _ (by omega)]
