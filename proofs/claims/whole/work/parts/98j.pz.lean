section PZ5
variable {S S1 S2 : Nat → Nat → Int32} {b : Nat → Int32} {len p : Nat} {s : Int32 × Nat}
theorem tf_p (h : TF S S1) (hp : S 29 4 = nI p) : S1 29 4 = nI p := by rw [h 29 (by omega)]; exact hp
theorem tf_q {x : Int32} (hp : x = nI p) : x + 1 - 1 = nI p := by rw [hp, nI_1]; exact nI_pred p
theorem mg_p (h : MG S S1) (hp : S 285 24 = nI p) : S1 285 24 = nI p := by rw [h.2 24 (by omega) (by omega) (by omega)]; exact hp
theorem MP_c (h : MP b len S s) (h1 : S1 285 23 = S 285 23) (h2 : S1 285 5 = S 285 5) (h3 : S1 285 21 = S 285 21) (h4 : S1 285 22 = S 285 22) (h5 : S1 289 = S 289) : MP b len S1 s := by
  unfold MP
  rw [h1, h2, h3, h4, h5]
  exact h
theorem MP_u {c i : Nat} {v : Int32} (h : MP b len S s) (hc : 300 ≤ c ∧ c ≤ 303 := by decide) : MP b len (am_u S c i v) s := MP_c h (by rw [am_u_ne _ (by omega)]) (by rw [am_u_ne _ (by omega)]) (by rw [am_u_ne _ (by omega)]) (by rw [am_u_ne _ (by omega)]) (by rw [am_u_ne _ (by omega)])
theorem MP_24 {v : Int32} (h : MP b len S s) : MP b len (am_u S 285 24 v) s := MP_c h (am_u_ni _ (by omega)) (am_u_ni _ (by omega)) (am_u_ni _ (by omega)) (am_u_ni _ (by omega)) (by rw [am_u_ne _ (by omega)])
theorem z_sign {c : Int32} (h : (pz_sign b len c s).1 = 0) : s.1 = 0 := by
  unfold pz_sign at h
  by_cases e : s.1 = 0
  · exact e
  · rw [if_neg e] at h; exact absurd h e
theorem z_num {lo hi : Int32} (h : (pz_num b len lo hi s).1 = 0) : s.1 = 0 ∧ ¬ (pz_v b len s.2 < lo ∨ hi < pz_v b len s.2) := by
  unfold pz_num at h
  by_cases e : s.1 = 0
  · rw [if_pos e] at h
    refine ⟨e, fun z => ?_⟩
    rw [if_pos z] at h
    split at h
    · exact absurd (show (1 : Int32) = 0 from h) (by decide)
    · exact absurd (show (2 : Int32) = 0 from h) (by decide)
  · rw [if_neg e] at h; exact absurd h e
theorem z_sort {r : Bool} (h : (pz_sort b len r s).1 = 0) : s.1 = 0 ∧ ¬ pz_kind (pz_by b len s.2) = 0 ∧ r = true ∧ pz_sort b len r s = (0, s.2 + 1) := by
  unfold pz_sort at h ⊢
  by_cases e : s.1 = 0
  · rw [if_pos e] at h ⊢
    by_cases e1 : pz_kind (pz_by b len s.2) = 0
    · rw [if_pos e1] at h; exact absurd (show (1 : Int32) = 0 from h) (by decide)
    · rw [if_neg e1] at h ⊢
      by_cases e2 : r = true
      · rw [if_pos e2]; exact ⟨e, e1, e2, rfl⟩
      · rw [if_neg e2] at h; exact absurd (show (3 : Int32) = 0 from h) (by decide)
  · rw [if_neg e] at h; exact absurd h e
theorem n_sign {c : Int32} (h : ¬ s.1 = 0) : pz_sign b len c s = s := if_neg h
theorem n_num {lo hi : Int32} (h : ¬ s.1 = 0) : pz_num b len lo hi s = s := if_neg h
theorem n_sort {r : Bool} (h : ¬ s.1 = 0) : pz_sort b len r s = s := if_neg h
end PZ5
def pz_law (b : Nat → Int32) (len : Nat) : Int32 × Nat := pz_sign b len 59 (pz_num b len 1 99 (pz_sign b len 44 (pz_num b len 4 12 (pz_sign b len 119 (0, 0)))))
def pz_g (b : Nat → Int32) (len : Nat) : Int32 := pz_v b len (pz_sign b len 119 (0, 0)).2
def pz_l (b : Nat → Int32) (len : Nat) : Int32 := pz_v b len (pz_sign b len 44 (pz_num b len 4 12 (pz_sign b len 119 (0, 0)))).2
def pz_pt (b : Nat → Int32) (len : Nat) (r : Bool) (s : Int32 × Nat) : Int32 × Nat := pz_sign b len 59 (pz_num b len 1 4 (pz_sign b len 44 (pz_num b len 1 9 (pz_sort b len r s))))
def pz_k (b : Nat → Int32) (len : Nat) (s : Int32 × Nat) : Int32 := pz_kind (pz_by b len s.2)
def pz_w (b : Nat → Int32) (len : Nat) (s : Int32 × Nat) : Int32 := pz_v b len (s.2 + 1)
def pz_r (b : Nat → Int32) (len : Nat) (s : Int32 × Nat) : Int32 := pz_v b len (pz_sign b len 44 (pz_num b len 1 9 (0, s.2 + 1))).2
def pz_st (b : Nat → Int32) (len : Nat) : Nat → Int32 × Nat
  | 0 => pz_law b len
  | i + 1 => pz_pt b len (decide (i < 6)) (pz_st b len i)
def w_ap2 (W : Nat → Nat → Int32) (p : Nat) (k w r : Int32) : Nat → Nat → Int32 := w_ca (am_u (am_u (am_u (am_u W 2 p k) 3 p w) 4 p r) 0 4 (nI (p + 1))) p
