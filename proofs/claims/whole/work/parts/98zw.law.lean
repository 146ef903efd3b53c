section LAW
variable {X : Nat × (Nat → Int32)} {Q : Option Value → am_H → Prop}
theorem law_lp (hX : X.1 ≤ 3072) (hQ : ∀ S L, Q (some (.int 1)) (am_hh X S L)) : ∀ (k i : Nat) (S : Nat → Nat → Int32) (L : Nat → Int64), X.1 < i + 6 * k + 6 → i ≤ X.1 + 6 → JJ S → am_ex 40 239 18 [some (.ref 0), some (.ref 5), some (.ref 285), some (.int (nI i))] [] (am_hh X S L) Q := by
  have hc : ∀ i, i ≤ X.1 + 6 → ((nI X.1 - 6 < nI i) ↔ X.1 < i + 6) := fun i hi => by
    rw [Int32.lt_iff_toInt_lt, nI_toInt (by omega)]
    have e : (nI X.1 - 6 : Int32).toInt = (X.1 : Int) - 6 := by
      rw [Int32.toInt_sub, nI_toInt (by omega)]
      have e6 : (6 : Int32).toInt = 6 := by decide
      rw [e6]
      exact Int.bmod_eq_of_le (by omega) (by omega)
    rw [e]
    omega
  intro k
  induction k with
  | zero =>
    intro i S L hk hi J
    refine law_hd (fun _ => hQ S L) (fun c => ?_)
    rw [hc i hi] at c
    omega
  | succ k ih =>
    intro i S L hk hi J
    refine law_hd (fun _ => hQ S L) (fun c => ?_)
    rw [hc i hi] at c
    refine law_sw (by omega) (by omega) J (fun S2 L2 J2 => law_nx ?_)
    rw [show nI i + 6 = nI (i + 6) from nI_add i 6]
    exact ih (i + 6) S2 L2 (by omega) (by omega) J2
end LAW
