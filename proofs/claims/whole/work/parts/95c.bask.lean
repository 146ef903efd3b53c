section BASK
variable {X : Nat × (Nat → Int32)} {S : Nat → Nat → Int32} {L : Nat → Int64} {g n : Nat}
theorem JJ_ask {S' : Nat → Nat → Int32} (J : JJ S) (h : ∀ a, a ≠ 283 → a ≠ 284 → a ≠ 285 → a ≠ 299 → S' a = S a) (h285 : ∀ i, i ≠ 20 → S' 285 i = S 285 i) (hQ : JQ S') : JJ S' := by
  obtain ⟨g, n, m, k, jR, jT, jF, jW, jK, jA, jI, jP, jQ, jC⟩ := J
  have q : ∀ a, a ≠ 283 ∧ a ≠ 284 ∧ a ≠ 285 ∧ a ≠ 299 → S' a = S a := fun a ha => h a ha.1 ha.2.1 ha.2.2.1 ha.2.2.2
  have qi : ∀ a i, a ≠ 283 ∧ a ≠ 284 ∧ a ≠ 285 ∧ a ≠ 299 → S' a i = S a i := fun a i ha => by rw [q a ha]
  have hc : w_cl (am_sub S' 29) := by
    rw [am_sub_c (S' := S') (S := S) (fun a h1 h2 => q a (by omega))]
    exact jC 29 isW29
  refine ⟨g, n, m, k, JR_c jR ?_ ?_, JT_c jT ?_ ?_ ?_ ?_, JF_c jF ?_ ?_ ?_ ?_, JW_c jW ?_ ?_ ?_ ?_, JK_c jK ?_, JA_c jA ?_ ?_ ?_ ?_ ?_ ?_ ?_ ?_, JI_c jI ?_ ?_ ?_, JP_c jP ?_ ?_ ?_ ?_, hQ, JC_c jC ?_ hc⟩
  all_goals first | (apply q; omega) | (apply qi; omega) | (apply h285; omega) | (intro a ha hb; apply q; omega) | (intro a ha hb hd; apply q; omega)
theorem bo_ask_1_0 (J : JJ S) {j : Nat} (hj : j < 6) (hk : S 22 j = 1) (hm : S 290 j = 1) (h1 : ¬ nI j < 0 ∧ ¬ S 20 4 ≤ nI j) (h2 : ¬ nI j < 0 ∧ ¬ S 285 7 - 1 < nI j) (ew : S 291 j = S 23 j) (er : S 293 (27 + j) = S 27 j) : BO X 136 224 [.int (nI j), .int 0] S L := by
  refine bo_of (v := .int ((S 23 j) + ((nI j) + (S 27 j)))) (S1 := (am_u (am_u (am_u (am_u (am_u (am_u (am_u (am_u (am_u S 283 2 0) 284 0 11) 283 2 1) 284 1 10) 283 2 2) 284 2 21) 283 2 3) 284 3 20) 283 2 4)) (S2 := (am_u (am_u (am_u (am_u (am_u (am_u (am_u (am_u (am_u (am_u (am_u (am_u (am_u (am_u (am_u (am_u (am_u (am_u S 283 2 0) 284 0 11) 283 2 1) 284 1 10) 283 2 2) 284 2 21) 283 2 3) 284 3 20) 283 2 4) 285 20 0) 299 0 11) 285 20 1) 299 1 10) 285 20 2) 299 2 21) 285 20 3) 299 3 20) 285 20 4)) (L1 := L) (L2 := L) (wk_ask_1_0 (d := 9) hk hj (fun _ => by omega) (fun c => absurd h1 c) (fun _ => ⟨rfl, rfl⟩)) (wm_ask_1_0 (d := 29) hm hj (fun _ => by omega) (fun _ => by omega) (fun c => absurd h2 c) (fun _ => ⟨?_, rfl⟩)) (JJ_ask J ?_ ?_ ⟨⟨4, by omega, rfl, rfl⟩, ?_⟩)
  · show some (Value.int ((S 291 j) + ((nI j) + (S 293 (27 + j))))) = _
    rw [ew, er]
  · intro a a1 a2 a3 a4
    repeat (first | rw [am_u_ne _ a3] | rw [am_u_ne _ a4] | rw [am_u_ne _ a1] | rw [am_u_ne _ a2])
  · intro i hi
    simp only [am_u_at, hi, and_false, if_false, (show (285 : Nat) = 299 ↔ False by decide), (show (285 : Nat) = 283 ↔ False by decide), (show (285 : Nat) = 284 ↔ False by decide), false_and]
  · obtain ⟨g, n, m, k, jR, jT, jF, jW, jK, jA, jI, jP, jQ, jC⟩ := J
    intro i hi
    have hc : i = 0 ∨ i = 1 ∨ i = 2 ∨ i = 3 ∨ i = 4 ∨ i = 5 ∨ i = 6 ∨ i = 7 ∨ i = 8 ∨ i = 9 ∨ i = 10 ∨ i = 11 ∨ i = 12 ∨ i = 13 ∨ i = 14 ∨ i = 15 := by omega
    rcases hc with rfl | rfl | rfl | rfl | rfl | rfl | rfl | rfl | rfl | rfl | rfl | rfl | rfl | rfl | rfl | rfl
    · rfl
    · rfl
    · rfl
    · rfl
    · exact jQ.2 4 (by omega)
    · exact jQ.2 5 (by omega)
    · exact jQ.2 6 (by omega)
    · exact jQ.2 7 (by omega)
    · exact jQ.2 8 (by omega)
    · exact jQ.2 9 (by omega)
    · exact jQ.2 10 (by omega)
    · exact jQ.2 11 (by omega)
    · exact jQ.2 12 (by omega)
    · exact jQ.2 13 (by omega)
    · exact jQ.2 14 (by omega)
    · exact jQ.2 15 (by omega)
theorem bo_ask_1_1 (J : JJ S) {j : Nat} (hj : j < 6) (hk : S 22 j = 1) (hm : S 290 j = 1) (h1 : ¬ nI j < 0 ∧ ¬ S 20 4 ≤ nI j) (h2 : ¬ nI j < 0 ∧ ¬ S 285 7 - 1 < nI j) (ew : S 291 j = S 23 j) (er : S 293 (27 + j) = S 27 j) : BO X 136 224 [.int (nI j), .int 1] S L := by
  refine bo_of (v := .int ((nI j) + (S 27 j))) (S1 := (am_u (am_u (am_u (am_u (am_u S 283 2 0) 284 0 21) 283 2 1) 284 1 20) 283 2 2)) (S2 := (am_u (am_u (am_u (am_u (am_u (am_u (am_u (am_u (am_u (am_u S 283 2 0) 284 0 21) 283 2 1) 284 1 20) 283 2 2) 285 20 0) 299 0 21) 285 20 1) 299 1 20) 285 20 2)) (L1 := L) (L2 := L) (wk_ask_1_1 (d := 9) hk hj (fun _ => by omega) (fun c => absurd h1 c) (fun _ => ⟨rfl, rfl⟩)) (wm_ask_1_1 (d := 29) hm hj (fun _ => by omega) (fun _ => by omega) (fun c => absurd h2 c) (fun _ => ⟨?_, rfl⟩)) (JJ_ask J ?_ ?_ ⟨⟨2, by omega, rfl, rfl⟩, ?_⟩)
  · show some (Value.int ((nI j) + (S 293 (27 + j)))) = _
    rw [er]
  · intro a a1 a2 a3 a4
    repeat (first | rw [am_u_ne _ a3] | rw [am_u_ne _ a4] | rw [am_u_ne _ a1] | rw [am_u_ne _ a2])
  · intro i hi
    simp only [am_u_at, hi, and_false, if_false, (show (285 : Nat) = 299 ↔ False by decide), (show (285 : Nat) = 283 ↔ False by decide), (show (285 : Nat) = 284 ↔ False by decide), false_and]
  · obtain ⟨g, n, m, k, jR, jT, jF, jW, jK, jA, jI, jP, jQ, jC⟩ := J
    intro i hi
    have hc : i = 0 ∨ i = 1 ∨ i = 2 ∨ i = 3 ∨ i = 4 ∨ i = 5 ∨ i = 6 ∨ i = 7 ∨ i = 8 ∨ i = 9 ∨ i = 10 ∨ i = 11 ∨ i = 12 ∨ i = 13 ∨ i = 14 ∨ i = 15 := by omega
    rcases hc with rfl | rfl | rfl | rfl | rfl | rfl | rfl | rfl | rfl | rfl | rfl | rfl | rfl | rfl | rfl | rfl
    · rfl
    · rfl
    · exact jQ.2 2 (by omega)
    · exact jQ.2 3 (by omega)
    · exact jQ.2 4 (by omega)
    · exact jQ.2 5 (by omega)
    · exact jQ.2 6 (by omega)
    · exact jQ.2 7 (by omega)
    · exact jQ.2 8 (by omega)
    · exact jQ.2 9 (by omega)
    · exact jQ.2 10 (by omega)
    · exact jQ.2 11 (by omega)
    · exact jQ.2 12 (by omega)
    · exact jQ.2 13 (by omega)
    · exact jQ.2 14 (by omega)
    · exact jQ.2 15 (by omega)
theorem bo_ask_2_0 (J : JJ S) {j : Nat} (hj : j < 6) (hk : S 22 j = 2) (hm : S 290 j = 2) (h1 : ¬ nI j < 0 ∧ ¬ S 20 4 ≤ nI j) (h2 : ¬ nI j < 0 ∧ ¬ S 285 7 - 1 < nI j) (ew : S 291 j = S 23 j) (er : S 293 (27 + j) = S 27 j) : BO X 136 224 [.int (nI j), .int 0] S L := by
  refine bo_of (v := .int (0 - ((S 23 j) + (2 * ((nI j) + (S 27 j)))))) (S1 := (am_u (am_u (am_u (am_u (am_u (am_u (am_u (am_u (am_u (am_u (am_u (am_u (am_u S 283 2 0) 284 0 12) 283 2 1) 284 1 11) 283 2 2) 284 2 10) 283 2 3) 284 3 24) 283 2 4) 284 4 21) 283 2 5) 284 5 20) 283 2 6)) (S2 := (am_u (am_u (am_u (am_u (am_u (am_u (am_u (am_u (am_u (am_u (am_u (am_u (am_u (am_u (am_u (am_u (am_u (am_u (am_u (am_u (am_u (am_u (am_u (am_u (am_u (am_u S 283 2 0) 284 0 12) 283 2 1) 284 1 11) 283 2 2) 284 2 10) 283 2 3) 284 3 24) 283 2 4) 284 4 21) 283 2 5) 284 5 20) 283 2 6) 285 20 0) 299 0 12) 285 20 1) 299 1 11) 285 20 2) 299 2 10) 285 20 3) 299 3 24) 285 20 4) 299 4 21) 285 20 5) 299 5 20) 285 20 6)) (L1 := L) (L2 := L) (wk_ask_2_0 (d := 9) hk hj (fun _ => by omega) (fun c => absurd h1 c) (fun _ => ⟨rfl, rfl⟩)) (wm_ask_2_0 (d := 29) hm hj (fun _ => by omega) (fun _ => by omega) (fun c => absurd h2 c) (fun _ => ⟨?_, rfl⟩)) (JJ_ask J ?_ ?_ ⟨⟨6, by omega, rfl, rfl⟩, ?_⟩)
  · show some (Value.int (-((S 291 j) + (2 * ((nI j) + (S 293 (27 + j))))))) = _
    rw [ew, er]
    rw [Int32.zero_sub]
  · intro a a1 a2 a3 a4
    repeat (first | rw [am_u_ne _ a3] | rw [am_u_ne _ a4] | rw [am_u_ne _ a1] | rw [am_u_ne _ a2])
  · intro i hi
    simp only [am_u_at, hi, and_false, if_false, (show (285 : Nat) = 299 ↔ False by decide), (show (285 : Nat) = 283 ↔ False by decide), (show (285 : Nat) = 284 ↔ False by decide), false_and]
  · obtain ⟨g, n, m, k, jR, jT, jF, jW, jK, jA, jI, jP, jQ, jC⟩ := J
    intro i hi
    have hc : i = 0 ∨ i = 1 ∨ i = 2 ∨ i = 3 ∨ i = 4 ∨ i = 5 ∨ i = 6 ∨ i = 7 ∨ i = 8 ∨ i = 9 ∨ i = 10 ∨ i = 11 ∨ i = 12 ∨ i = 13 ∨ i = 14 ∨ i = 15 := by omega
    rcases hc with rfl | rfl | rfl | rfl | rfl | rfl | rfl | rfl | rfl | rfl | rfl | rfl | rfl | rfl | rfl | rfl
    · rfl
    · rfl
    · rfl
    · rfl
    · rfl
    · rfl
    · exact jQ.2 6 (by omega)
    · exact jQ.2 7 (by omega)
    · exact jQ.2 8 (by omega)
    · exact jQ.2 9 (by omega)
    · exact jQ.2 10 (by omega)
    · exact jQ.2 11 (by omega)
    · exact jQ.2 12 (by omega)
    · exact jQ.2 13 (by omega)
    · exact jQ.2 14 (by omega)
    · exact jQ.2 15 (by omega)
theorem bo_ask_2_1 (J : JJ S) {j : Nat} (hj : j < 6) (hk : S 22 j = 2) (hm : S 290 j = 2) (h1 : ¬ nI j < 0 ∧ ¬ S 20 4 ≤ nI j) (h2 : ¬ nI j < 0 ∧ ¬ S 285 7 - 1 < nI j) (ew : S 291 j = S 23 j) (er : S 293 (27 + j) = S 27 j) : BO X 136 224 [.int (nI j), .int 1] S L := by
  refine bo_of (v := .int (2 * ((nI j) + (S 27 j)))) (S1 := (am_u (am_u (am_u (am_u (am_u (am_u (am_u S 283 2 0) 284 0 24) 283 2 1) 284 1 21) 283 2 2) 284 2 20) 283 2 3)) (S2 := (am_u (am_u (am_u (am_u (am_u (am_u (am_u (am_u (am_u (am_u (am_u (am_u (am_u (am_u S 283 2 0) 284 0 24) 283 2 1) 284 1 21) 283 2 2) 284 2 20) 283 2 3) 285 20 0) 299 0 24) 285 20 1) 299 1 21) 285 20 2) 299 2 20) 285 20 3)) (L1 := L) (L2 := L) (wk_ask_2_1 (d := 9) hk hj (fun _ => by omega) (fun c => absurd h1 c) (fun _ => ⟨rfl, rfl⟩)) (wm_ask_2_1 (d := 29) hm hj (fun _ => by omega) (fun _ => by omega) (fun c => absurd h2 c) (fun _ => ⟨?_, rfl⟩)) (JJ_ask J ?_ ?_ ⟨⟨3, by omega, rfl, rfl⟩, ?_⟩)
  · show some (Value.int (2 * ((nI j) + (S 293 (27 + j))))) = _
    rw [er]
  · intro a a1 a2 a3 a4
    repeat (first | rw [am_u_ne _ a3] | rw [am_u_ne _ a4] | rw [am_u_ne _ a1] | rw [am_u_ne _ a2])
  · intro i hi
    simp only [am_u_at, hi, and_false, if_false, (show (285 : Nat) = 299 ↔ False by decide), (show (285 : Nat) = 283 ↔ False by decide), (show (285 : Nat) = 284 ↔ False by decide), false_and]
  · obtain ⟨g, n, m, k, jR, jT, jF, jW, jK, jA, jI, jP, jQ, jC⟩ := J
    intro i hi
    have hc : i = 0 ∨ i = 1 ∨ i = 2 ∨ i = 3 ∨ i = 4 ∨ i = 5 ∨ i = 6 ∨ i = 7 ∨ i = 8 ∨ i = 9 ∨ i = 10 ∨ i = 11 ∨ i = 12 ∨ i = 13 ∨ i = 14 ∨ i = 15 := by omega
    rcases hc with rfl | rfl | rfl | rfl | rfl | rfl | rfl | rfl | rfl | rfl | rfl | rfl | rfl | rfl | rfl | rfl
    · rfl
    · rfl
    · rfl
    · exact jQ.2 3 (by omega)
    · exact jQ.2 4 (by omega)
    · exact jQ.2 5 (by omega)
    · exact jQ.2 6 (by omega)
    · exact jQ.2 7 (by omega)
    · exact jQ.2 8 (by omega)
    · exact jQ.2 9 (by omega)
    · exact jQ.2 10 (by omega)
    · exact jQ.2 11 (by omega)
    · exact jQ.2 12 (by omega)
    · exact jQ.2 13 (by omega)
    · exact jQ.2 14 (by omega)
    · exact jQ.2 15 (by omega)
theorem bo_ask_3_0 (J : JJ S) {j : Nat} (hj : j < 6) (hk : S 22 j = 3) (hm : S 290 j = 3) (h1 : ¬ nI j < 0 ∧ ¬ S 20 4 ≤ nI j) (h2 : ¬ nI j < 0 ∧ ¬ S 285 7 - 1 < nI j) (ew : S 291 j = S 23 j) (er : S 293 (27 + j) = S 27 j) : BO X 136 224 [.int (nI j), .int 0] S L := by
  refine bo_of (v := .int ((S 23 j) + (((nI j) + (S 27 j)) - 1000))) (S1 := (am_u (am_u (am_u (am_u (am_u (am_u (am_u (am_u (am_u (am_u (am_u S 283 2 0) 284 0 11) 283 2 1) 284 1 10) 283 2 2) 284 2 22) 283 2 3) 284 3 21) 283 2 4) 284 4 20) 283 2 5)) (S2 := (am_u (am_u (am_u (am_u (am_u (am_u (am_u (am_u (am_u (am_u (am_u (am_u (am_u (am_u (am_u (am_u (am_u (am_u (am_u (am_u (am_u (am_u S 283 2 0) 284 0 11) 283 2 1) 284 1 10) 283 2 2) 284 2 22) 283 2 3) 284 3 21) 283 2 4) 284 4 20) 283 2 5) 285 20 0) 299 0 11) 285 20 1) 299 1 10) 285 20 2) 299 2 22) 285 20 3) 299 3 21) 285 20 4) 299 4 20) 285 20 5)) (L1 := L) (L2 := L) (wk_ask_3_0 (d := 9) hk hj (fun _ => by omega) (fun c => absurd h1 c) (fun _ => ⟨rfl, rfl⟩)) (wm_ask_3_0 (d := 29) hm hj (fun _ => by omega) (fun _ => by omega) (fun c => absurd h2 c) (fun _ => ⟨?_, rfl⟩)) (JJ_ask J ?_ ?_ ⟨⟨5, by omega, rfl, rfl⟩, ?_⟩)
  · show some (Value.int ((S 291 j) + (((nI j) + (S 293 (27 + j))) - 1000))) = _
    rw [ew, er]
  · intro a a1 a2 a3 a4
    repeat (first | rw [am_u_ne _ a3] | rw [am_u_ne _ a4] | rw [am_u_ne _ a1] | rw [am_u_ne _ a2])
  · intro i hi
    simp only [am_u_at, hi, and_false, if_false, (show (285 : Nat) = 299 ↔ False by decide), (show (285 : Nat) = 283 ↔ False by decide), (show (285 : Nat) = 284 ↔ False by decide), false_and]
  · obtain ⟨g, n, m, k, jR, jT, jF, jW, jK, jA, jI, jP, jQ, jC⟩ := J
    intro i hi
    have hc : i = 0 ∨ i = 1 ∨ i = 2 ∨ i = 3 ∨ i = 4 ∨ i = 5 ∨ i = 6 ∨ i = 7 ∨ i = 8 ∨ i = 9 ∨ i = 10 ∨ i = 11 ∨ i = 12 ∨ i = 13 ∨ i = 14 ∨ i = 15 := by omega
    rcases hc with rfl | rfl | rfl | rfl | rfl | rfl | rfl | rfl | rfl | rfl | rfl | rfl | rfl | rfl | rfl | rfl
    · rfl
    · rfl
    · rfl
    · rfl
    · rfl
    · exact jQ.2 5 (by omega)
    · exact jQ.2 6 (by omega)
    · exact jQ.2 7 (by omega)
    · exact jQ.2 8 (by omega)
    · exact jQ.2 9 (by omega)
    · exact jQ.2 10 (by omega)
    · exact jQ.2 11 (by omega)
    · exact jQ.2 12 (by omega)
    · exact jQ.2 13 (by omega)
    · exact jQ.2 14 (by omega)
    · exact jQ.2 15 (by omega)
theorem bo_ask_3_1 (J : JJ S) {j : Nat} (hj : j < 6) (hk : S 22 j = 3) (hm : S 290 j = 3) (h1 : ¬ nI j < 0 ∧ ¬ S 20 4 ≤ nI j) (h2 : ¬ nI j < 0 ∧ ¬ S 285 7 - 1 < nI j) (ew : S 291 j = S 23 j) (er : S 293 (27 + j) = S 27 j) : BO X 136 224 [.int (nI j), .int 1] S L := by
  refine bo_of (v := .int (((nI j) + (S 27 j)) - 1000)) (S1 := (am_u (am_u (am_u (am_u (am_u (am_u (am_u S 283 2 0) 284 0 22) 283 2 1) 284 1 21) 283 2 2) 284 2 20) 283 2 3)) (S2 := (am_u (am_u (am_u (am_u (am_u (am_u (am_u (am_u (am_u (am_u (am_u (am_u (am_u (am_u S 283 2 0) 284 0 22) 283 2 1) 284 1 21) 283 2 2) 284 2 20) 283 2 3) 285 20 0) 299 0 22) 285 20 1) 299 1 21) 285 20 2) 299 2 20) 285 20 3)) (L1 := L) (L2 := L) (wk_ask_3_1 (d := 9) hk hj (fun _ => by omega) (fun c => absurd h1 c) (fun _ => ⟨rfl, rfl⟩)) (wm_ask_3_1 (d := 29) hm hj (fun _ => by omega) (fun _ => by omega) (fun c => absurd h2 c) (fun _ => ⟨?_, rfl⟩)) (JJ_ask J ?_ ?_ ⟨⟨3, by omega, rfl, rfl⟩, ?_⟩)
  · show some (Value.int (((nI j) + (S 293 (27 + j))) - 1000)) = _
    rw [er]
  · intro a a1 a2 a3 a4
    repeat (first | rw [am_u_ne _ a3] | rw [am_u_ne _ a4] | rw [am_u_ne _ a1] | rw [am_u_ne _ a2])
  · intro i hi
    simp only [am_u_at, hi, and_false, if_false, (show (285 : Nat) = 299 ↔ False by decide), (show (285 : Nat) = 283 ↔ False by decide), (show (285 : Nat) = 284 ↔ False by decide), false_and]
  · obtain ⟨g, n, m, k, jR, jT, jF, jW, jK, jA, jI, jP, jQ, jC⟩ := J
    intro i hi
    have hc : i = 0 ∨ i = 1 ∨ i = 2 ∨ i = 3 ∨ i = 4 ∨ i = 5 ∨ i = 6 ∨ i = 7 ∨ i = 8 ∨ i = 9 ∨ i = 10 ∨ i = 11 ∨ i = 12 ∨ i = 13 ∨ i = 14 ∨ i = 15 := by omega
    rcases hc with rfl | rfl | rfl | rfl | rfl | rfl | rfl | rfl | rfl | rfl | rfl | rfl | rfl | rfl | rfl | rfl
    · rfl
    · rfl
    · rfl
    · exact jQ.2 3 (by omega)
    · exact jQ.2 4 (by omega)
    · exact jQ.2 5 (by omega)
    · exact jQ.2 6 (by omega)
    · exact jQ.2 7 (by omega)
    · exact jQ.2 8 (by omega)
    · exact jQ.2 9 (by omega)
    · exact jQ.2 10 (by omega)
    · exact jQ.2 11 (by omega)
    · exact jQ.2 12 (by omega)
    · exact jQ.2 13 (by omega)
    · exact jQ.2 14 (by omega)
    · exact jQ.2 15 (by omega)
theorem bo_ask_4_0 (J : JJ S) {j : Nat} (hj : j < 6) (hk : S 22 j = 4) (hm : S 290 j = 4) (h1 : ¬ nI j < 0 ∧ ¬ S 20 4 ≤ nI j) (h2 : ¬ nI j < 0 ∧ ¬ S 285 7 - 1 < nI j) (ew : S 291 j = S 23 j) (er : S 293 (27 + j) = S 27 j) : BO X 136 224 [.int (nI j), .int 0] S L := by
  refine bo_of (v := .int ((S 23 j) - 100)) (S1 := (am_u (am_u (am_u (am_u (am_u S 283 2 0) 284 0 13) 283 2 1) 284 1 10) 283 2 2)) (S2 := (am_u (am_u (am_u (am_u (am_u (am_u (am_u (am_u (am_u (am_u S 283 2 0) 284 0 13) 283 2 1) 284 1 10) 283 2 2) 285 20 0) 299 0 13) 285 20 1) 299 1 10) 285 20 2)) (L1 := L) (L2 := L) (wk_ask_4_0 (d := 9) hk hj (fun _ => by omega) (fun c => absurd h1 c) (fun _ => ⟨rfl, rfl⟩)) (wm_ask_4_0 (d := 29) hm hj (fun _ => by omega) (fun c => absurd h2 c) (fun _ => ⟨?_, rfl⟩)) (JJ_ask J ?_ ?_ ⟨⟨2, by omega, rfl, rfl⟩, ?_⟩)
  · show some (Value.int ((S 291 j) - 100)) = _
    rw [ew]
  · intro a a1 a2 a3 a4
    repeat (first | rw [am_u_ne _ a3] | rw [am_u_ne _ a4] | rw [am_u_ne _ a1] | rw [am_u_ne _ a2])
  · intro i hi
    simp only [am_u_at, hi, and_false, if_false, (show (285 : Nat) = 299 ↔ False by decide), (show (285 : Nat) = 283 ↔ False by decide), (show (285 : Nat) = 284 ↔ False by decide), false_and]
  · obtain ⟨g, n, m, k, jR, jT, jF, jW, jK, jA, jI, jP, jQ, jC⟩ := J
    intro i hi
    have hc : i = 0 ∨ i = 1 ∨ i = 2 ∨ i = 3 ∨ i = 4 ∨ i = 5 ∨ i = 6 ∨ i = 7 ∨ i = 8 ∨ i = 9 ∨ i = 10 ∨ i = 11 ∨ i = 12 ∨ i = 13 ∨ i = 14 ∨ i = 15 := by omega
    rcases hc with rfl | rfl | rfl | rfl | rfl | rfl | rfl | rfl | rfl | rfl | rfl | rfl | rfl | rfl | rfl | rfl
    · rfl
    · rfl
    · exact jQ.2 2 (by omega)
    · exact jQ.2 3 (by omega)
    · exact jQ.2 4 (by omega)
    · exact jQ.2 5 (by omega)
    · exact jQ.2 6 (by omega)
    · exact jQ.2 7 (by omega)
    · exact jQ.2 8 (by omega)
    · exact jQ.2 9 (by omega)
    · exact jQ.2 10 (by omega)
    · exact jQ.2 11 (by omega)
    · exact jQ.2 12 (by omega)
    · exact jQ.2 13 (by omega)
    · exact jQ.2 14 (by omega)
    · exact jQ.2 15 (by omega)
theorem bo_ask_4_1 (J : JJ S) {j : Nat} (hj : j < 6) (hk : S 22 j = 4) (hm : S 290 j = 4) (h1 : ¬ nI j < 0 ∧ ¬ S 20 4 ≤ nI j) (h2 : ¬ nI j < 0 ∧ ¬ S 285 7 - 1 < nI j) (ew : S 291 j = S 23 j) (er : S 293 (27 + j) = S 27 j) : BO X 136 224 [.int (nI j), .int 1] S L := by
  refine bo_of (v := .int ((nI j) - ((S 23 j) - 100))) (S1 := (am_u (am_u (am_u (am_u (am_u (am_u (am_u (am_u (am_u S 283 2 0) 284 0 23) 283 2 1) 284 1 20) 283 2 2) 284 2 13) 283 2 3) 284 3 10) 283 2 4)) (S2 := (am_u (am_u (am_u (am_u (am_u (am_u (am_u (am_u (am_u (am_u (am_u (am_u (am_u (am_u (am_u (am_u (am_u (am_u S 283 2 0) 284 0 23) 283 2 1) 284 1 20) 283 2 2) 284 2 13) 283 2 3) 284 3 10) 283 2 4) 285 20 0) 299 0 23) 285 20 1) 299 1 20) 285 20 2) 299 2 13) 285 20 3) 299 3 10) 285 20 4)) (L1 := L) (L2 := L) (wk_ask_4_1 (d := 9) hk hj (fun _ => by omega) (fun c => absurd h1 c) (fun _ => ⟨rfl, rfl⟩)) (wm_ask_4_1 (d := 29) hm hj (fun _ => by omega) (fun c => absurd h2 c) (fun _ => ⟨?_, rfl⟩)) (JJ_ask J ?_ ?_ ⟨⟨4, by omega, rfl, rfl⟩, ?_⟩)
  · show some (Value.int ((nI j) - ((S 291 j) - 100))) = _
    rw [ew]
  · intro a a1 a2 a3 a4
    repeat (first | rw [am_u_ne _ a3] | rw [am_u_ne _ a4] | rw [am_u_ne _ a1] | rw [am_u_ne _ a2])
  · intro i hi
    simp only [am_u_at, hi, and_false, if_false, (show (285 : Nat) = 299 ↔ False by decide), (show (285 : Nat) = 283 ↔ False by decide), (show (285 : Nat) = 284 ↔ False by decide), false_and]
  · obtain ⟨g, n, m, k, jR, jT, jF, jW, jK, jA, jI, jP, jQ, jC⟩ := J
    intro i hi
    have hc : i = 0 ∨ i = 1 ∨ i = 2 ∨ i = 3 ∨ i = 4 ∨ i = 5 ∨ i = 6 ∨ i = 7 ∨ i = 8 ∨ i = 9 ∨ i = 10 ∨ i = 11 ∨ i = 12 ∨ i = 13 ∨ i = 14 ∨ i = 15 := by omega
    rcases hc with rfl | rfl | rfl | rfl | rfl | rfl | rfl | rfl | rfl | rfl | rfl | rfl | rfl | rfl | rfl | rfl
    · rfl
    · rfl
    · rfl
    · rfl
    · exact jQ.2 4 (by omega)
    · exact jQ.2 5 (by omega)
    · exact jQ.2 6 (by omega)
    · exact jQ.2 7 (by omega)
    · exact jQ.2 8 (by omega)
    · exact jQ.2 9 (by omega)
    · exact jQ.2 10 (by omega)
    · exact jQ.2 11 (by omega)
    · exact jQ.2 12 (by omega)
    · exact jQ.2 13 (by omega)
    · exact jQ.2 14 (by omega)
    · exact jQ.2 15 (by omega)
theorem bo_ask_5_0 (J : JJ S) {j : Nat} (hj : j < 6) (hk : S 22 j = 5) (hm : S 290 j = 5) (h1 : ¬ nI j < 0 ∧ ¬ S 20 4 ≤ nI j) (h2 : ¬ nI j < 0 ∧ ¬ S 285 7 - 1 < nI j) (ew : S 291 j = S 23 j) (er : S 293 (27 + j) = S 27 j) : BO X 136 224 [.int (nI j), .int 0] S L := by
  refine bo_of (v := .int (2 * ((S 23 j) - 100))) (S1 := (am_u (am_u (am_u (am_u (am_u (am_u (am_u S 283 2 0) 284 0 14) 283 2 1) 284 1 13) 283 2 2) 284 2 10) 283 2 3)) (S2 := (am_u (am_u (am_u (am_u (am_u (am_u (am_u (am_u (am_u (am_u (am_u (am_u (am_u (am_u S 283 2 0) 284 0 14) 283 2 1) 284 1 13) 283 2 2) 284 2 10) 283 2 3) 285 20 0) 299 0 14) 285 20 1) 299 1 13) 285 20 2) 299 2 10) 285 20 3)) (L1 := L) (L2 := L) (wk_ask_5_0 (d := 9) hk hj (fun _ => by omega) (fun c => absurd h1 c) (fun _ => ⟨rfl, rfl⟩)) (wm_ask_5_0 (d := 29) hm hj (fun _ => by omega) (fun c => absurd h2 c) (fun _ => ⟨?_, rfl⟩)) (JJ_ask J ?_ ?_ ⟨⟨3, by omega, rfl, rfl⟩, ?_⟩)
  · show some (Value.int (2 * ((S 291 j) - 100))) = _
    rw [ew]
  · intro a a1 a2 a3 a4
    repeat (first | rw [am_u_ne _ a3] | rw [am_u_ne _ a4] | rw [am_u_ne _ a1] | rw [am_u_ne _ a2])
  · intro i hi
    simp only [am_u_at, hi, and_false, if_false, (show (285 : Nat) = 299 ↔ False by decide), (show (285 : Nat) = 283 ↔ False by decide), (show (285 : Nat) = 284 ↔ False by decide), false_and]
  · obtain ⟨g, n, m, k, jR, jT, jF, jW, jK, jA, jI, jP, jQ, jC⟩ := J
    intro i hi
    have hc : i = 0 ∨ i = 1 ∨ i = 2 ∨ i = 3 ∨ i = 4 ∨ i = 5 ∨ i = 6 ∨ i = 7 ∨ i = 8 ∨ i = 9 ∨ i = 10 ∨ i = 11 ∨ i = 12 ∨ i = 13 ∨ i = 14 ∨ i = 15 := by omega
    rcases hc with rfl | rfl | rfl | rfl | rfl | rfl | rfl | rfl | rfl | rfl | rfl | rfl | rfl | rfl | rfl | rfl
    · rfl
    · rfl
    · rfl
    · exact jQ.2 3 (by omega)
    · exact jQ.2 4 (by omega)
    · exact jQ.2 5 (by omega)
    · exact jQ.2 6 (by omega)
    · exact jQ.2 7 (by omega)
    · exact jQ.2 8 (by omega)
    · exact jQ.2 9 (by omega)
    · exact jQ.2 10 (by omega)
    · exact jQ.2 11 (by omega)
    · exact jQ.2 12 (by omega)
    · exact jQ.2 13 (by omega)
    · exact jQ.2 14 (by omega)
    · exact jQ.2 15 (by omega)
theorem bo_ask_5_1 (J : JJ S) {j : Nat} (hj : j < 6) (hk : S 22 j = 5) (hm : S 290 j = 5) (h1 : ¬ nI j < 0 ∧ ¬ S 20 4 ≤ nI j) (h2 : ¬ nI j < 0 ∧ ¬ S 285 7 - 1 < nI j) (ew : S 291 j = S 23 j) (er : S 293 (27 + j) = S 27 j) : BO X 136 224 [.int (nI j), .int 1] S L := by
  refine bo_of (v := .int ((nI j) - (2 * ((S 23 j) - 100)))) (S1 := (am_u (am_u (am_u (am_u (am_u (am_u (am_u (am_u (am_u (am_u (am_u S 283 2 0) 284 0 23) 283 2 1) 284 1 20) 283 2 2) 284 2 14) 283 2 3) 284 3 13) 283 2 4) 284 4 10) 283 2 5)) (S2 := (am_u (am_u (am_u (am_u (am_u (am_u (am_u (am_u (am_u (am_u (am_u (am_u (am_u (am_u (am_u (am_u (am_u (am_u (am_u (am_u (am_u (am_u S 283 2 0) 284 0 23) 283 2 1) 284 1 20) 283 2 2) 284 2 14) 283 2 3) 284 3 13) 283 2 4) 284 4 10) 283 2 5) 285 20 0) 299 0 23) 285 20 1) 299 1 20) 285 20 2) 299 2 14) 285 20 3) 299 3 13) 285 20 4) 299 4 10) 285 20 5)) (L1 := L) (L2 := L) (wk_ask_5_1 (d := 9) hk hj (fun _ => by omega) (fun c => absurd h1 c) (fun _ => ⟨rfl, rfl⟩)) (wm_ask_5_1 (d := 29) hm hj (fun _ => by omega) (fun c => absurd h2 c) (fun _ => ⟨?_, rfl⟩)) (JJ_ask J ?_ ?_ ⟨⟨5, by omega, rfl, rfl⟩, ?_⟩)
  · show some (Value.int ((nI j) - (2 * ((S 291 j) - 100)))) = _
    rw [ew]
  · intro a a1 a2 a3 a4
    repeat (first | rw [am_u_ne _ a3] | rw [am_u_ne _ a4] | rw [am_u_ne _ a1] | rw [am_u_ne _ a2])
  · intro i hi
    simp only [am_u_at, hi, and_false, if_false, (show (285 : Nat) = 299 ↔ False by decide), (show (285 : Nat) = 283 ↔ False by decide), (show (285 : Nat) = 284 ↔ False by decide), false_and]
  · obtain ⟨g, n, m, k, jR, jT, jF, jW, jK, jA, jI, jP, jQ, jC⟩ := J
    intro i hi
    have hc : i = 0 ∨ i = 1 ∨ i = 2 ∨ i = 3 ∨ i = 4 ∨ i = 5 ∨ i = 6 ∨ i = 7 ∨ i = 8 ∨ i = 9 ∨ i = 10 ∨ i = 11 ∨ i = 12 ∨ i = 13 ∨ i = 14 ∨ i = 15 := by omega
    rcases hc with rfl | rfl | rfl | rfl | rfl | rfl | rfl | rfl | rfl | rfl | rfl | rfl | rfl | rfl | rfl | rfl
    · rfl
    · rfl
    · rfl
    · rfl
    · rfl
    · exact jQ.2 5 (by omega)
    · exact jQ.2 6 (by omega)
    · exact jQ.2 7 (by omega)
    · exact jQ.2 8 (by omega)
    · exact jQ.2 9 (by omega)
    · exact jQ.2 10 (by omega)
    · exact jQ.2 11 (by omega)
    · exact jQ.2 12 (by omega)
    · exact jQ.2 13 (by omega)
    · exact jQ.2 14 (by omega)
    · exact jQ.2 15 (by omega)
theorem bo_ask (J : JJ S) (p q : Int32) : BO X 136 224 [.int p, .int q] S L := by
  have J0 := J
  obtain ⟨g, n, m, k, jR, jT, jF, jW, jK, jA, jI, jP, jQ, jC⟩ := J
  have hn6 := (JW_n jW).2.2
  have hiff : g_k_ask S p q ↔ g_m_ask S p q := by
    unfold g_k_ask g_m_ask
    rw [gp_iff jW, not_or]
  by_cases hg : g_k_ask S p q
  · have hgm := hiff.mp hg
    obtain ⟨j, hj, rfl⟩ := gp_j jW hg.1
    obtain ⟨t, -, ht, rfl⟩ := go_i (a := 0) (b := 1) (by omega) (by omega) hg.2
    obtain ⟨-, hR, hG⟩ := JW_y jW (Or.inl hj)
    obtain ⟨k0, hk1, hk5, hk⟩ := hG.1 j hj
    have e1 := hR.2.2.2.2.2.2.1 j hj
    have e2 := (hR.2.2.2.2.2.2.2.1 j hj).2.1
    have hm : S 290 j = nI k0 := e1.1.trans hk
    have hk' : S 22 j = nI k0 := hk
    have hc : k0 = 1 ∨ k0 = 2 ∨ k0 = 3 ∨ k0 = 4 ∨ k0 = 5 := by omega
    have ht2 : t = 0 ∨ t = 1 := by omega
    rcases hc with rfl | rfl | rfl | rfl | rfl <;> rcases ht2 with rfl | rfl
    · exact bo_ask_1_0 J0 (by omega) hk' hm hg.1 hgm.1 e1.2.1 e2
    · exact bo_ask_1_1 J0 (by omega) hk' hm hg.1 hgm.1 e1.2.1 e2
    · exact bo_ask_2_0 J0 (by omega) hk' hm hg.1 hgm.1 e1.2.1 e2
    · exact bo_ask_2_1 J0 (by omega) hk' hm hg.1 hgm.1 e1.2.1 e2
    · exact bo_ask_3_0 J0 (by omega) hk' hm hg.1 hgm.1 e1.2.1 e2
    · exact bo_ask_3_1 J0 (by omega) hk' hm hg.1 hgm.1 e1.2.1 e2
    · exact bo_ask_4_0 J0 (by omega) hk' hm hg.1 hgm.1 e1.2.1 e2
    · exact bo_ask_4_1 J0 (by omega) hk' hm hg.1 hgm.1 e1.2.1 e2
    · exact bo_ask_5_0 J0 (by omega) hk' hm hg.1 hgm.1 e1.2.1 e2
    · exact bo_ask_5_1 J0 (by omega) hk' hm hg.1 hgm.1 e1.2.1 e2
  · have hgm := fun z => hg (hiff.mpr z)
    refine bo_ro (v := .int (-1000001)) J0 (wg_k_ask (d := 9) hg ⟨?_, rfl⟩) (wg_m_ask (d := 29) hgm ⟨?_, rfl⟩)
    · unfold eg_k_ask
      unfold g_k_ask at hg
      split
      · split
        · rfl
        · rename_i a b; exact absurd ⟨a, b⟩ hg
      · rfl
    · unfold eg_m_ask
      unfold g_m_ask at hgm
      split
      · split
        · rename_i a b; exact absurd ⟨a, b⟩ hgm
        · rfl
      · rfl
end BASK
