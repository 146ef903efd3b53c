/-! Acts: the ring of the class and the book of the model, t acts on. -/
section ACTS2
variable {S S' : Nat → Nat → Int32} {g n m k t : Nat}
def KP (S S1 : Nat → Nat → Int32) (Ws : Nat → Nat → Nat → Int32) (m k t : Nat) : Prop :=
  (∀ i, i < t → am_sub S1 (40 + 9 * ((m + i) % 24)) = Ws i) ∧ (∀ c, c < 24 → (∀ i, i < t → c ≠ (m + i) % 24) → am_sub S1 (40 + 9 * c) = am_sub S (40 + 9 * c)) ∧ S1 38 1 = nI ((m + t) % 24) ∧ S1 38 2 = nI (min (k + t) 24)
def NP (S S2 : Nat → Nat → Int32) (rows : Nat → Nat → Int32) (k t : Nat) : Prop :=
  S2 285 14 = nI (min (k + t) 24) ∧ ∀ q y, q < min (k + t) 24 → y < 39 → S2 294 (39 * q + y) = if q + (k + t - min (k + t) 24) < k then S 294 (39 * (q + (k + t - min (k + t) 24)) + y) else rows (q + (k + t - min (k + t) 24) - k) y
theorem JA_n {Ws : Nat → Nat → Nat → Int32} {rows : Nat → Nat → Int32} (jA : JA S g n m k) (ht : t ≤ 24) (hn1 : 1 ≤ n) (hK : KP S S' Ws m k t) (hN : NP S S' rows k t) (hr : ∀ i, i < t → mR (Ws i) (mkV (S 285 7) (S 285 8) (S 290) (S 291) (S 292) (rows i)) 293 g n ∧ wG (Ws i) n) (h7 : S' 285 7 = S 285 7) (h8 : S' 285 8 = S 285 8) (h0 : S' 290 = S 290) (h1 : S' 291 = S 291) (h2 : S' 292 = S 292) : JA S' g n ((m + t) % 24) (min (k + t) 24) := by
  obtain ⟨a1, a2, a3, a4, a5, a6, a7⟩ := jA
  obtain ⟨k1, k2, k3, k4⟩ := hK
  obtain ⟨n1, n2⟩ := hN
  refine ⟨Nat.mod_lt _ (by omega), by omega, k3, k4, n1, fun z => by omega, fun j hj => ?_⟩
  rw [h7, h8, h0, h1, h2]
  by_cases hjt : j < t
  · have e : ((m + t) % 24 + 23 - j) % 24 = (m + (t - 1 - j)) % 24 := by omega
    rw [e, k1 (t - 1 - j) (by omega)]
    obtain ⟨r1, r2⟩ := hr (t - 1 - j) (by omega)
    refine ⟨mR_c r1 rfl rfl (fun y hy => ?_) (fun _ _ => rfl) (fun _ _ => rfl) (fun _ _ => rfl), r2⟩
    show S' 294 (39 * (min (k + t) 24 - 1 - j) + y) = rows (t - 1 - j) y
    rw [n2 _ y (by omega) hy, if_neg (by omega)]
    congr 1
    omega
  · have e : ((m + t) % 24 + 23 - j) % 24 = (m + 23 - (j - t)) % 24 := by omega
    rw [e, k2 _ (Nat.mod_lt _ (by omega)) (fun i hi => by omega)]
    obtain ⟨r1, r2⟩ := a7 (j - t) (by omega)
    refine ⟨mR_c r1 rfl rfl (fun y hy => ?_) (fun _ _ => rfl) (fun _ _ => rfl) (fun _ _ => rfl), r2⟩
    show S' 294 (39 * (min (k + t) 24 - 1 - j) + y) = S 294 (39 * (k - 1 - (j - t)) + y)
    rw [n2 _ y (by omega) hy, if_pos (by omega)]
    congr 1
    omega
/-- after acts: all is as it must be -/
theorem JJ_act {Ws : Nat → Nat → Nat → Int32} {rows : Nat → Nat → Int32} (jR : JR S) (jT : JT S) (jF : JF S) (jK : JK S) (jA : JA S g n m k) (jI : JI S) (jQ : JQ S) (jC : JC S) (ht : t ≤ 24) (hn1 : 1 ≤ n) (hK : KP S S' Ws m k t) (hN : NP S S' rows k t) (hr : ∀ i, i < t → mR (Ws i) (mkV (S 285 7) (S 285 8) (S 290) (S 291) (S 292) (rows i)) 293 g n ∧ wG (Ws i) n) (hcW : ∀ i, i < t → w_cl (Ws i)) (hW : mR (am_sub S' 20) S' 293 g n ∧ wG (am_sub S' 20) n) (hc20 : w_cl (am_sub S' 20)) (h3 : S' 277 3 = 0) (h : ∀ a, ¬ (20 ≤ a ∧ a < 29) → ¬ (40 ≤ a ∧ a < 256) → a ≠ 38 → a ≠ 277 → a ≠ 285 → a ≠ 293 → a ≠ 294 → S' a = S a) (h285 : ∀ i, i ≠ 14 → S' 285 i = S 285 i) : JJ S' := by
  have q : ∀ a, ¬ (20 ≤ a ∧ a < 29) ∧ ¬ (40 ≤ a ∧ a < 256) ∧ a ≠ 38 ∧ a ≠ 277 ∧ a ≠ 285 ∧ a ≠ 293 ∧ a ≠ 294 → S' a = S a := fun a ha => h a ha.1 ha.2.1 ha.2.2.1 ha.2.2.2.1 ha.2.2.2.2.1 ha.2.2.2.2.2.1 ha.2.2.2.2.2.2
  have qi : ∀ a i, ¬ (20 ≤ a ∧ a < 29) ∧ ¬ (40 ≤ a ∧ a < 256) ∧ a ≠ 38 ∧ a ≠ 277 ∧ a ≠ 285 ∧ a ≠ 293 ∧ a ≠ 294 → S' a i = S a i := fun a i ha => by rw [q a ha]
  refine ⟨g, n, (m + t) % 24, min (k + t) 24, JR_c jR ?_ ?_, JT_c jT ?_ ?_ ?_ ?_, JF_c jF ?_ ?_ ?_ ?_, Or.inr ⟨hn1, hW.1, hW.2⟩, JK_c jK ?_, JA_n jA ht hn1 hK hN hr ?_ ?_ ?_ ?_ ?_, JI_c jI ?_ ?_ ?_, Or.inl h3, JQ_c jQ ?_ ?_ ?_ ?_, fun w hw => ?_⟩
  all_goals first | (apply q; omega) | (apply qi; omega) | (apply h285; omega) | (intro a ha hb; apply q; omega) | skip
  rcases hw with rfl | rfl | ⟨c, hc, rfl⟩ | ⟨c, hc, rfl⟩
  · exact hc20
  · rw [am_sub_c (S' := S') (S := S) (fun a h1 h2 => q a (by omega))]
    exact jC 29 isW29
  · by_cases e : ∃ i, i < t ∧ c = (m + i) % 24
    · obtain ⟨i, hi, rfl⟩ := e
      rw [hK.1 i hi]
      exact hcW i hi
    · rw [hK.2.1 c hc (fun i hi z => e ⟨i, hi, z⟩)]
      exact jC _ (isW_past hc)
  · rw [am_sub_c (S' := S') (S := S) (fun a h1 h2 => q a (by omega))]
    exact jC _ (isW_kept hc)
end ACTS2
