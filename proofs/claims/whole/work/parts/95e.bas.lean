section BAS
variable {X : Nat × (Nat → Int32)} {S : Nat → Nat → Int32} {L : Nat → Int64} {g n : Nat}
theorem bo_as_1_0 (J : JJ S) {j : Nat} (hj : j < 6) (hk : S 22 j = 1) (hm : S 290 j = 1) (h1 : ¬ nI j < 0 ∧ ¬ S 20 4 ≤ nI j) (h2 : ¬ nI j < 0 ∧ ¬ S 285 7 - 1 < nI j) : BO X 133 222 [.int (nI j), .int 0] S L := by
  exact bo_find (v := .int (nI j)) 0 J (wk_as_1_0 (d := 35) hk hj (fun _ => by omega) (fun c => absurd h1 c) (fun _ => ⟨rfl, rfl⟩)) (wm_as_1_0 (d := 35) hm hj (fun _ => by omega) (fun c => absurd h2 c) (fun _ => ⟨rfl, rfl⟩))
theorem bo_as_1_1 (J : JJ S) {j : Nat} (hj : j < 6) (hk : S 22 j = 1) (hm : S 290 j = 1) (h1 : ¬ nI j < 0 ∧ ¬ S 20 4 ≤ nI j) (h2 : ¬ nI j < 0 ∧ ¬ S 285 7 - 1 < nI j) : BO X 133 222 [.int (nI j), .int 1] S L := by
  exact bo_find (v := .int (nI j)) 0 J (wk_as_1_1 (d := 35) hk hj (fun _ => by omega) (fun c => absurd h1 c) (fun _ => ⟨rfl, rfl⟩)) (wm_as_1_1 (d := 35) hm hj (fun _ => by omega) (fun c => absurd h2 c) (fun _ => ⟨rfl, rfl⟩))
theorem bo_as_1_2 (J : JJ S) {j : Nat} (hj : j < 6) (hk : S 22 j = 1) (hm : S 290 j = 1) (h1 : ¬ nI j < 0 ∧ ¬ S 20 4 ≤ nI j) (h2 : ¬ nI j < 0 ∧ ¬ S 285 7 - 1 < nI j) : BO X 133 222 [.int (nI j), .int 2] S L := by
  exact bo_find (v := .int (-1000013)) 3 J (wk_as_1_2 (d := 35) hk hj (fun _ => by omega) (fun c => absurd h1 c) (fun _ => ⟨rfl, rfl⟩)) (wm_as_1_2 (d := 35) hm hj (fun _ => by omega) (fun c => absurd h2 c) (fun _ => ⟨rfl, rfl⟩))
theorem bo_as_1_3 (J : JJ S) {j : Nat} (hj : j < 6) (hk : S 22 j = 1) (hm : S 290 j = 1) (h1 : ¬ nI j < 0 ∧ ¬ S 20 4 ≤ nI j) (h2 : ¬ nI j < 0 ∧ ¬ S 285 7 - 1 < nI j) : BO X 133 222 [.int (nI j), .int 3] S L := by
  exact bo_find (v := .int (-1000013)) 3 J (wk_as_1_3 (d := 35) hk hj (fun _ => by omega) (fun c => absurd h1 c) (fun _ => ⟨rfl, rfl⟩)) (wm_as_1_3 (d := 35) hm hj (fun _ => by omega) (fun c => absurd h2 c) (fun _ => ⟨rfl, rfl⟩))
theorem bo_as_1_4 (J : JJ S) {j : Nat} (hj : j < 6) (hk : S 22 j = 1) (hm : S 290 j = 1) (h1 : ¬ nI j < 0 ∧ ¬ S 20 4 ≤ nI j) (h2 : ¬ nI j < 0 ∧ ¬ S 285 7 - 1 < nI j) : BO X 133 222 [.int (nI j), .int 4] S L := by
  exact bo_find (v := .int (-1000013)) 3 J (wk_as_1_4 (d := 35) hk hj (fun _ => by omega) (fun c => absurd h1 c) (fun _ => ⟨rfl, rfl⟩)) (wm_as_1_4 (d := 35) hm hj (fun _ => by omega) (fun c => absurd h2 c) (fun _ => ⟨rfl, rfl⟩))
theorem bo_as_1_5 (J : JJ S) {j : Nat} (hj : j < 6) (hk : S 22 j = 1) (hm : S 290 j = 1) (h1 : ¬ nI j < 0 ∧ ¬ S 20 4 ≤ nI j) (h2 : ¬ nI j < 0 ∧ ¬ S 285 7 - 1 < nI j) : BO X 133 222 [.int (nI j), .int 5] S L := by
  exact bo_find (v := .int (-1000013)) 3 J (wk_as_1_5 (d := 35) hk hj (fun _ => by omega) (fun c => absurd h1 c) (fun _ => ⟨rfl, rfl⟩)) (wm_as_1_5 (d := 35) hm hj (fun _ => by omega) (fun c => absurd h2 c) (fun _ => ⟨rfl, rfl⟩))
theorem bo_as_2_0 (J : JJ S) {j : Nat} (hj : j < 6) (hk : S 22 j = 2) (hm : S 290 j = 2) (h1 : ¬ nI j < 0 ∧ ¬ S 20 4 ≤ nI j) (h2 : ¬ nI j < 0 ∧ ¬ S 285 7 - 1 < nI j) : BO X 133 222 [.int (nI j), .int 0] S L := by
  exact bo_find (v := .int (nI j)) 0 J (wk_as_2_0 (d := 35) hk hj (fun _ => by omega) (fun c => absurd h1 c) (fun _ => ⟨rfl, rfl⟩)) (wm_as_2_0 (d := 35) hm hj (fun _ => by omega) (fun c => absurd h2 c) (fun _ => ⟨rfl, rfl⟩))
theorem bo_as_2_1 (J : JJ S) {j : Nat} (hj : j < 6) (hk : S 22 j = 2) (hm : S 290 j = 2) (h1 : ¬ nI j < 0 ∧ ¬ S 20 4 ≤ nI j) (h2 : ¬ nI j < 0 ∧ ¬ S 285 7 - 1 < nI j) : BO X 133 222 [.int (nI j), .int 1] S L := by
  exact bo_find (v := .int (nI j)) 0 J (wk_as_2_1 (d := 35) hk hj (fun _ => by omega) (fun c => absurd h1 c) (fun _ => ⟨rfl, rfl⟩)) (wm_as_2_1 (d := 35) hm hj (fun _ => by omega) (fun c => absurd h2 c) (fun _ => ⟨rfl, rfl⟩))
theorem bo_as_2_2 (J : JJ S) {j : Nat} (hj : j < 6) (hk : S 22 j = 2) (hm : S 290 j = 2) (h1 : ¬ nI j < 0 ∧ ¬ S 20 4 ≤ nI j) (h2 : ¬ nI j < 0 ∧ ¬ S 285 7 - 1 < nI j) : BO X 133 222 [.int (nI j), .int 2] S L := by
  exact bo_find (v := .int (nI j)) 0 J (wk_as_2_2 (d := 35) hk hj (fun _ => by omega) (fun c => absurd h1 c) (fun _ => ⟨rfl, rfl⟩)) (wm_as_2_2 (d := 35) hm hj (fun _ => by omega) (fun c => absurd h2 c) (fun _ => ⟨rfl, rfl⟩))
theorem bo_as_2_3 (J : JJ S) {j : Nat} (hj : j < 6) (hk : S 22 j = 2) (hm : S 290 j = 2) (h1 : ¬ nI j < 0 ∧ ¬ S 20 4 ≤ nI j) (h2 : ¬ nI j < 0 ∧ ¬ S 285 7 - 1 < nI j) : BO X 133 222 [.int (nI j), .int 3] S L := by
  exact bo_find (v := .int (-1000013)) 3 J (wk_as_2_3 (d := 35) hk hj (fun _ => by omega) (fun c => absurd h1 c) (fun _ => ⟨rfl, rfl⟩)) (wm_as_2_3 (d := 35) hm hj (fun _ => by omega) (fun c => absurd h2 c) (fun _ => ⟨rfl, rfl⟩))
theorem bo_as_2_4 (J : JJ S) {j : Nat} (hj : j < 6) (hk : S 22 j = 2) (hm : S 290 j = 2) (h1 : ¬ nI j < 0 ∧ ¬ S 20 4 ≤ nI j) (h2 : ¬ nI j < 0 ∧ ¬ S 285 7 - 1 < nI j) : BO X 133 222 [.int (nI j), .int 4] S L := by
  exact bo_find (v := .int (-1000013)) 3 J (wk_as_2_4 (d := 35) hk hj (fun _ => by omega) (fun c => absurd h1 c) (fun _ => ⟨rfl, rfl⟩)) (wm_as_2_4 (d := 35) hm hj (fun _ => by omega) (fun c => absurd h2 c) (fun _ => ⟨rfl, rfl⟩))
theorem bo_as_2_5 (J : JJ S) {j : Nat} (hj : j < 6) (hk : S 22 j = 2) (hm : S 290 j = 2) (h1 : ¬ nI j < 0 ∧ ¬ S 20 4 ≤ nI j) (h2 : ¬ nI j < 0 ∧ ¬ S 285 7 - 1 < nI j) : BO X 133 222 [.int (nI j), .int 5] S L := by
  exact bo_find (v := .int (-1000013)) 3 J (wk_as_2_5 (d := 35) hk hj (fun _ => by omega) (fun c => absurd h1 c) (fun _ => ⟨rfl, rfl⟩)) (wm_as_2_5 (d := 35) hm hj (fun _ => by omega) (fun c => absurd h2 c) (fun _ => ⟨rfl, rfl⟩))
theorem bo_as_3_0 (J : JJ S) {j : Nat} (hj : j < 6) (hk : S 22 j = 3) (hm : S 290 j = 3) (h1 : ¬ nI j < 0 ∧ ¬ S 20 4 ≤ nI j) (h2 : ¬ nI j < 0 ∧ ¬ S 285 7 - 1 < nI j) : BO X 133 222 [.int (nI j), .int 0] S L := by
  exact bo_find (v := .int (nI j)) 0 J (wk_as_3_0 (d := 35) hk hj (fun _ => by omega) (fun c => absurd h1 c) (fun _ => ⟨rfl, rfl⟩)) (wm_as_3_0 (d := 35) hm hj (fun _ => by omega) (fun c => absurd h2 c) (fun _ => ⟨rfl, rfl⟩))
theorem bo_as_3_1 (J : JJ S) {j : Nat} (hj : j < 6) (hk : S 22 j = 3) (hm : S 290 j = 3) (h1 : ¬ nI j < 0 ∧ ¬ S 20 4 ≤ nI j) (h2 : ¬ nI j < 0 ∧ ¬ S 285 7 - 1 < nI j) : BO X 133 222 [.int (nI j), .int 1] S L := by
  exact bo_find (v := .int (nI j)) 0 J (wk_as_3_1 (d := 35) hk hj (fun _ => by omega) (fun c => absurd h1 c) (fun _ => ⟨rfl, rfl⟩)) (wm_as_3_1 (d := 35) hm hj (fun _ => by omega) (fun c => absurd h2 c) (fun _ => ⟨rfl, rfl⟩))
theorem bo_as_3_2 (J : JJ S) {j : Nat} (hj : j < 6) (hk : S 22 j = 3) (hm : S 290 j = 3) (h1 : ¬ nI j < 0 ∧ ¬ S 20 4 ≤ nI j) (h2 : ¬ nI j < 0 ∧ ¬ S 285 7 - 1 < nI j) : BO X 133 222 [.int (nI j), .int 2] S L := by
  exact bo_find (v := .int (-1000013)) 3 J (wk_as_3_2 (d := 35) hk hj (fun _ => by omega) (fun c => absurd h1 c) (fun _ => ⟨rfl, rfl⟩)) (wm_as_3_2 (d := 35) hm hj (fun _ => by omega) (fun c => absurd h2 c) (fun _ => ⟨rfl, rfl⟩))
theorem bo_as_3_3 (J : JJ S) {j : Nat} (hj : j < 6) (hk : S 22 j = 3) (hm : S 290 j = 3) (h1 : ¬ nI j < 0 ∧ ¬ S 20 4 ≤ nI j) (h2 : ¬ nI j < 0 ∧ ¬ S 285 7 - 1 < nI j) : BO X 133 222 [.int (nI j), .int 3] S L := by
  exact bo_find (v := .int (nI j)) 0 J (wk_as_3_3 (d := 35) hk hj (fun _ => by omega) (fun c => absurd h1 c) (fun _ => ⟨rfl, rfl⟩)) (wm_as_3_3 (d := 35) hm hj (fun _ => by omega) (fun c => absurd h2 c) (fun _ => ⟨rfl, rfl⟩))
theorem bo_as_3_4 (J : JJ S) {j : Nat} (hj : j < 6) (hk : S 22 j = 3) (hm : S 290 j = 3) (h1 : ¬ nI j < 0 ∧ ¬ S 20 4 ≤ nI j) (h2 : ¬ nI j < 0 ∧ ¬ S 285 7 - 1 < nI j) : BO X 133 222 [.int (nI j), .int 4] S L := by
  exact bo_find (v := .int (-1000013)) 3 J (wk_as_3_4 (d := 35) hk hj (fun _ => by omega) (fun c => absurd h1 c) (fun _ => ⟨rfl, rfl⟩)) (wm_as_3_4 (d := 35) hm hj (fun _ => by omega) (fun c => absurd h2 c) (fun _ => ⟨rfl, rfl⟩))
theorem bo_as_3_5 (J : JJ S) {j : Nat} (hj : j < 6) (hk : S 22 j = 3) (hm : S 290 j = 3) (h1 : ¬ nI j < 0 ∧ ¬ S 20 4 ≤ nI j) (h2 : ¬ nI j < 0 ∧ ¬ S 285 7 - 1 < nI j) : BO X 133 222 [.int (nI j), .int 5] S L := by
  exact bo_find (v := .int (-1000013)) 3 J (wk_as_3_5 (d := 35) hk hj (fun _ => by omega) (fun c => absurd h1 c) (fun _ => ⟨rfl, rfl⟩)) (wm_as_3_5 (d := 35) hm hj (fun _ => by omega) (fun c => absurd h2 c) (fun _ => ⟨rfl, rfl⟩))
theorem bo_as_4_0 (J : JJ S) {j : Nat} (hj : j < 6) (hk : S 22 j = 4) (hm : S 290 j = 4) (h1 : ¬ nI j < 0 ∧ ¬ S 20 4 ≤ nI j) (h2 : ¬ nI j < 0 ∧ ¬ S 285 7 - 1 < nI j) : BO X 133 222 [.int (nI j), .int 0] S L := by
  exact bo_find (v := .int (nI j)) 0 J (wk_as_4_0 (d := 35) hk hj (fun _ => by omega) (fun c => absurd h1 c) (fun _ => ⟨rfl, rfl⟩)) (wm_as_4_0 (d := 35) hm hj (fun _ => by omega) (fun c => absurd h2 c) (fun _ => ⟨rfl, rfl⟩))
theorem bo_as_4_1 (J : JJ S) {j : Nat} (hj : j < 6) (hk : S 22 j = 4) (hm : S 290 j = 4) (h1 : ¬ nI j < 0 ∧ ¬ S 20 4 ≤ nI j) (h2 : ¬ nI j < 0 ∧ ¬ S 285 7 - 1 < nI j) : BO X 133 222 [.int (nI j), .int 1] S L := by
  exact bo_find (v := .int (-1000013)) 3 J (wk_as_4_1 (d := 35) hk hj (fun _ => by omega) (fun c => absurd h1 c) (fun _ => ⟨rfl, rfl⟩)) (wm_as_4_1 (d := 35) hm hj (fun _ => by omega) (fun c => absurd h2 c) (fun _ => ⟨rfl, rfl⟩))
theorem bo_as_4_2 (J : JJ S) {j : Nat} (hj : j < 6) (hk : S 22 j = 4) (hm : S 290 j = 4) (h1 : ¬ nI j < 0 ∧ ¬ S 20 4 ≤ nI j) (h2 : ¬ nI j < 0 ∧ ¬ S 285 7 - 1 < nI j) : BO X 133 222 [.int (nI j), .int 2] S L := by
  exact bo_find (v := .int (-1000013)) 3 J (wk_as_4_2 (d := 35) hk hj (fun _ => by omega) (fun c => absurd h1 c) (fun _ => ⟨rfl, rfl⟩)) (wm_as_4_2 (d := 35) hm hj (fun _ => by omega) (fun c => absurd h2 c) (fun _ => ⟨rfl, rfl⟩))
theorem bo_as_4_3 (J : JJ S) {j : Nat} (hj : j < 6) (hk : S 22 j = 4) (hm : S 290 j = 4) (h1 : ¬ nI j < 0 ∧ ¬ S 20 4 ≤ nI j) (h2 : ¬ nI j < 0 ∧ ¬ S 285 7 - 1 < nI j) : BO X 133 222 [.int (nI j), .int 3] S L := by
  exact bo_find (v := .int (-1000013)) 3 J (wk_as_4_3 (d := 35) hk hj (fun _ => by omega) (fun c => absurd h1 c) (fun _ => ⟨rfl, rfl⟩)) (wm_as_4_3 (d := 35) hm hj (fun _ => by omega) (fun c => absurd h2 c) (fun _ => ⟨rfl, rfl⟩))
theorem bo_as_4_4 (J : JJ S) {j : Nat} (hj : j < 6) (hk : S 22 j = 4) (hm : S 290 j = 4) (h1 : ¬ nI j < 0 ∧ ¬ S 20 4 ≤ nI j) (h2 : ¬ nI j < 0 ∧ ¬ S 285 7 - 1 < nI j) : BO X 133 222 [.int (nI j), .int 4] S L := by
  exact bo_find (v := .int (nI j)) 0 J (wk_as_4_4 (d := 35) hk hj (fun _ => by omega) (fun c => absurd h1 c) (fun _ => ⟨rfl, rfl⟩)) (wm_as_4_4 (d := 35) hm hj (fun _ => by omega) (fun c => absurd h2 c) (fun _ => ⟨rfl, rfl⟩))
theorem bo_as_4_5 (J : JJ S) {j : Nat} (hj : j < 6) (hk : S 22 j = 4) (hm : S 290 j = 4) (h1 : ¬ nI j < 0 ∧ ¬ S 20 4 ≤ nI j) (h2 : ¬ nI j < 0 ∧ ¬ S 285 7 - 1 < nI j) : BO X 133 222 [.int (nI j), .int 5] S L := by
  exact bo_find (v := .int (-1000013)) 3 J (wk_as_4_5 (d := 35) hk hj (fun _ => by omega) (fun c => absurd h1 c) (fun _ => ⟨rfl, rfl⟩)) (wm_as_4_5 (d := 35) hm hj (fun _ => by omega) (fun c => absurd h2 c) (fun _ => ⟨rfl, rfl⟩))
theorem bo_as_5_0 (J : JJ S) {j : Nat} (hj : j < 6) (hk : S 22 j = 5) (hm : S 290 j = 5) (h1 : ¬ nI j < 0 ∧ ¬ S 20 4 ≤ nI j) (h2 : ¬ nI j < 0 ∧ ¬ S 285 7 - 1 < nI j) : BO X 133 222 [.int (nI j), .int 0] S L := by
  exact bo_find (v := .int (nI j)) 0 J (wk_as_5_0 (d := 35) hk hj (fun _ => by omega) (fun c => absurd h1 c) (fun _ => ⟨rfl, rfl⟩)) (wm_as_5_0 (d := 35) hm hj (fun _ => by omega) (fun c => absurd h2 c) (fun _ => ⟨rfl, rfl⟩))
theorem bo_as_5_1 (J : JJ S) {j : Nat} (hj : j < 6) (hk : S 22 j = 5) (hm : S 290 j = 5) (h1 : ¬ nI j < 0 ∧ ¬ S 20 4 ≤ nI j) (h2 : ¬ nI j < 0 ∧ ¬ S 285 7 - 1 < nI j) : BO X 133 222 [.int (nI j), .int 1] S L := by
  exact bo_find (v := .int (-1000013)) 3 J (wk_as_5_1 (d := 35) hk hj (fun _ => by omega) (fun c => absurd h1 c) (fun _ => ⟨rfl, rfl⟩)) (wm_as_5_1 (d := 35) hm hj (fun _ => by omega) (fun c => absurd h2 c) (fun _ => ⟨rfl, rfl⟩))
theorem bo_as_5_2 (J : JJ S) {j : Nat} (hj : j < 6) (hk : S 22 j = 5) (hm : S 290 j = 5) (h1 : ¬ nI j < 0 ∧ ¬ S 20 4 ≤ nI j) (h2 : ¬ nI j < 0 ∧ ¬ S 285 7 - 1 < nI j) : BO X 133 222 [.int (nI j), .int 2] S L := by
  exact bo_find (v := .int (-1000013)) 3 J (wk_as_5_2 (d := 35) hk hj (fun _ => by omega) (fun c => absurd h1 c) (fun _ => ⟨rfl, rfl⟩)) (wm_as_5_2 (d := 35) hm hj (fun _ => by omega) (fun c => absurd h2 c) (fun _ => ⟨rfl, rfl⟩))
theorem bo_as_5_3 (J : JJ S) {j : Nat} (hj : j < 6) (hk : S 22 j = 5) (hm : S 290 j = 5) (h1 : ¬ nI j < 0 ∧ ¬ S 20 4 ≤ nI j) (h2 : ¬ nI j < 0 ∧ ¬ S 285 7 - 1 < nI j) : BO X 133 222 [.int (nI j), .int 3] S L := by
  exact bo_find (v := .int (-1000013)) 3 J (wk_as_5_3 (d := 35) hk hj (fun _ => by omega) (fun c => absurd h1 c) (fun _ => ⟨rfl, rfl⟩)) (wm_as_5_3 (d := 35) hm hj (fun _ => by omega) (fun c => absurd h2 c) (fun _ => ⟨rfl, rfl⟩))
theorem bo_as_5_4 (J : JJ S) {j : Nat} (hj : j < 6) (hk : S 22 j = 5) (hm : S 290 j = 5) (h1 : ¬ nI j < 0 ∧ ¬ S 20 4 ≤ nI j) (h2 : ¬ nI j < 0 ∧ ¬ S 285 7 - 1 < nI j) : BO X 133 222 [.int (nI j), .int 4] S L := by
  exact bo_find (v := .int (nI j)) 0 J (wk_as_5_4 (d := 35) hk hj (fun _ => by omega) (fun c => absurd h1 c) (fun _ => ⟨rfl, rfl⟩)) (wm_as_5_4 (d := 35) hm hj (fun _ => by omega) (fun c => absurd h2 c) (fun _ => ⟨rfl, rfl⟩))
theorem bo_as_5_5 (J : JJ S) {j : Nat} (hj : j < 6) (hk : S 22 j = 5) (hm : S 290 j = 5) (h1 : ¬ nI j < 0 ∧ ¬ S 20 4 ≤ nI j) (h2 : ¬ nI j < 0 ∧ ¬ S 285 7 - 1 < nI j) : BO X 133 222 [.int (nI j), .int 5] S L := by
  exact bo_find (v := .int (nI j)) 0 J (wk_as_5_5 (d := 35) hk hj (fun _ => by omega) (fun c => absurd h1 c) (fun _ => ⟨rfl, rfl⟩)) (wm_as_5_5 (d := 35) hm hj (fun _ => by omega) (fun c => absurd h2 c) (fun _ => ⟨rfl, rfl⟩))
theorem bo_as (J : JJ S) (p q : Int32) : BO X 133 222 [.int p, .int q] S L := by
  have J0 := J
  obtain ⟨g, n, m, k, jR, jT, jF, jW, jK, jA, jI, jP, jQ, jC⟩ := J
  have hn6 := (JW_n jW).2.2
  have hiff : g_k_as S p q ↔ g_m_as S p q := by
    unfold g_k_as g_m_as
    rw [gp_iff jW, not_or]
  by_cases hg : g_k_as S p q
  · have hgm := hiff.mp hg
    obtain ⟨j, hj, rfl⟩ := gp_j jW hg.1
    obtain ⟨t, -, ht, rfl⟩ := go_i (a := 0) (b := 5) (by omega) (by omega) hg.2
    obtain ⟨-, hR, hG⟩ := JW_y jW (Or.inl hj)
    obtain ⟨k0, hk1, hk5, hk⟩ := hG.1 j hj
    have e1 := hR.2.2.2.2.2.2.1 j hj
    have hm : S 290 j = nI k0 := e1.1.trans hk
    have hk' : S 22 j = nI k0 := hk
    have hc : k0 = 1 ∨ k0 = 2 ∨ k0 = 3 ∨ k0 = 4 ∨ k0 = 5 := by omega
    have ht2 : t = 0 ∨ t = 1 ∨ t = 2 ∨ t = 3 ∨ t = 4 ∨ t = 5 := by omega
    rcases hc with rfl | rfl | rfl | rfl | rfl <;> rcases ht2 with rfl | rfl | rfl | rfl | rfl | rfl
    · exact bo_as_1_0 J0 (by omega) hk' hm hg.1 hgm.1
    · exact bo_as_1_1 J0 (by omega) hk' hm hg.1 hgm.1
    · exact bo_as_1_2 J0 (by omega) hk' hm hg.1 hgm.1
    · exact bo_as_1_3 J0 (by omega) hk' hm hg.1 hgm.1
    · exact bo_as_1_4 J0 (by omega) hk' hm hg.1 hgm.1
    · exact bo_as_1_5 J0 (by omega) hk' hm hg.1 hgm.1
    · exact bo_as_2_0 J0 (by omega) hk' hm hg.1 hgm.1
    · exact bo_as_2_1 J0 (by omega) hk' hm hg.1 hgm.1
    · exact bo_as_2_2 J0 (by omega) hk' hm hg.1 hgm.1
    · exact bo_as_2_3 J0 (by omega) hk' hm hg.1 hgm.1
    · exact bo_as_2_4 J0 (by omega) hk' hm hg.1 hgm.1
    · exact bo_as_2_5 J0 (by omega) hk' hm hg.1 hgm.1
    · exact bo_as_3_0 J0 (by omega) hk' hm hg.1 hgm.1
    · exact bo_as_3_1 J0 (by omega) hk' hm hg.1 hgm.1
    · exact bo_as_3_2 J0 (by omega) hk' hm hg.1 hgm.1
    · exact bo_as_3_3 J0 (by omega) hk' hm hg.1 hgm.1
    · exact bo_as_3_4 J0 (by omega) hk' hm hg.1 hgm.1
    · exact bo_as_3_5 J0 (by omega) hk' hm hg.1 hgm.1
    · exact bo_as_4_0 J0 (by omega) hk' hm hg.1 hgm.1
    · exact bo_as_4_1 J0 (by omega) hk' hm hg.1 hgm.1
    · exact bo_as_4_2 J0 (by omega) hk' hm hg.1 hgm.1
    · exact bo_as_4_3 J0 (by omega) hk' hm hg.1 hgm.1
    · exact bo_as_4_4 J0 (by omega) hk' hm hg.1 hgm.1
    · exact bo_as_4_5 J0 (by omega) hk' hm hg.1 hgm.1
    · exact bo_as_5_0 J0 (by omega) hk' hm hg.1 hgm.1
    · exact bo_as_5_1 J0 (by omega) hk' hm hg.1 hgm.1
    · exact bo_as_5_2 J0 (by omega) hk' hm hg.1 hgm.1
    · exact bo_as_5_3 J0 (by omega) hk' hm hg.1 hgm.1
    · exact bo_as_5_4 J0 (by omega) hk' hm hg.1 hgm.1
    · exact bo_as_5_5 J0 (by omega) hk' hm hg.1 hgm.1
  · have hgm := fun z => hg (hiff.mpr z)
    refine bo_ro (v := .int (-1000001)) J0 (wg_k_as (d := 35) hg ⟨?_, rfl⟩) (wg_m_as (d := 35) hgm ⟨?_, rfl⟩)
    · unfold eg_k_as
      unfold g_k_as at hg
      split
      · split
        · rfl
        · rename_i a b; exact absurd ⟨a, b⟩ hg
      · rfl
    · unfold eg_m_as
      unfold g_m_as at hgm
      split
      · split
        · rename_i a b; exact absurd ⟨a, b⟩ hgm
        · rfl
      · rfl
end BAS
