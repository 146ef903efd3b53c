section ORD4
variable {d : Nat} {X : Nat × (Nat → Int32)} {S S1 S2 W : Nat → Nat → Int32} {L : Nat → Int64} {g n m : Nat} {q : Int32} {Q : Option Value → am_H → Prop}
theorem chn_1 {l : List Nat} (h : chn n [l] = true) : vnx (lg l) n = none := by
  unfold chn at h
  cases e : vnx (lg l) n with
  | none => rfl
  | some _ => rw [e] at h; exact absurd (show false = true from h) (by decide)
theorem chn_2 {l l' : List Nat} {r : List (List Nat)} (h : chn n (l :: l' :: r) = true) : (∃ p, vnx (lg l) n = some p ∧ ∀ k, k < 6 → p k = lg l' k) ∧ chn n (l' :: r) = true := by
  unfold chn at h
  rw [Bool.and_eq_true] at h
  refine ⟨?_, h.2⟩
  have h1 := h.1
  cases e : vnx (lg l) n with
  | none => rw [e] at h1; exact absurd (show false = true from h1) (by decide)
  | some p =>
    rw [e] at h1
    exact ⟨p, rfl, fun k hk => eq_of_beq (List.all_eq_true.mp h1 k (List.mem_range.mpr hk))⟩
theorem OB_try {l : List Nat} {b : Int32 × Int32 × (Nat → Int32)} (hb : OB b S1) (hl : ∀ k, k < 6 → S1 278 k = lf l k) (ht : (S2 277 6, S2 277 4, S2 279) = oc_try W g n m (S1 278) (S1 277 6, S1 277 4, S1 279)) : OB (oc_try W g n m (lf l) b) S2 := by
  have e := it_c (g := g) (n := n) hl m W
  have eo : oc_off W g n m (S1 278) = oc_off W g n m (lf l) := by unfold oc_off; rw [e]
  have er : oc_rid W g n m (S1 278) = oc_rid W g n m (lf l) := by unfold oc_rid; rw [e]
  obtain ⟨b1, b2, b3⟩ := hb
  unfold oc_try at ht ⊢
  dsimp only at ht
  rw [eo, er, b1, b2] at ht
  by_cases c : b.1 < oc_off W g n m (lf l) ∨ (oc_off W g n m (lf l) = b.1 ∧ b.2.1 < oc_rid W g n m (lf l))
  · rw [if_pos c] at ht ⊢
    injection ht with t1 ht
    injection ht with t2 t3
    refine ⟨t1, t2, fun k hk => ?_⟩
    rw [t3]
    unfold va_cpy
    rw [if_pos (by omega)]
    show S1 278 (0 + (k - 0)) = if 0 ≤ k ∧ k < 0 + 6 then lf l (0 + (k - 0)) else b.2.2 k
    rw [if_pos (by omega), show 0 + (k - 0) = k by omega]
    exact hl k hk
  · rw [if_neg c] at ht ⊢
    injection ht with t1 ht
    injection ht with t2 t3
    exact ⟨t1, t2, fun k hk => by rw [t3]; exact b3 k hk⟩
theorem fo_lp (hm : m < 1000) (hn : S 20 4 = nI n) (h1 : 1 ≤ n) (h6 : n ≤ 6) (hf : wF (am_sub S 20) g n) (hc0 : w_cl (am_sub S 20)) : ∀ (r : List (List Nat)) (l : List Nat) (i : Nat) (b : Int32 × Int32 × (Nat → Int32)) (S1 : Nat → Nat → Int32), chn n (l :: r) = true → (∀ l', l' ∈ l :: r → ∀ k, k < 6 → lg l' k < 6) → i + (l :: r).length ≤ 720 → OG m S S1 → (∀ k, k < 6 → S1 278 k = lf l k) → OB b S1 → (∀ S', OG m S S' → OB (oc_fs (am_sub S 20) g n m (l :: r) b) S' → Q none (am_hh X S' L)) → am_ex (d + 6) 89 42 [some (.ref 277), some (.int (nI m)), some (.int (bI true)), some (.int (nI i))] [] (am_hh X S1 L) Q := by
  intro r
  induction r with
  | nil =>
    intro l i b S1 hch hv hi hO hl hb hQ
    simp only [List.length_cons, List.length_nil] at hi
    have hno := chn_1 hch
    have hvl := hv l List.mem_cons_self
    have c720 : ¬ 720 ≤ nI i := by
      rw [show (720 : Int32) = nI 720 from rfl, nI_leI (by omega) (by omega)]; omega
    have e20 : am_sub S1 20 = am_sub S 20 := am_sub_c (fun a a1 a2 => hO.1 a (by omega) (by omega))
    have e25 : S1 25 = S 25 := hO.1 25 (by omega) (by omega)
    have fin : ∀ (S5 : Nat → Nat → Int32) (b' : Bool), OG m S S5 → OB (oc_fs (am_sub S 20) g n m [l] b) S5 → b' = false → am_ex (d + 6) 89 42 [some (.ref 277), some (.int (nI m)), some (.int (bI b')), some (.int (nI (i + 1)))] [] (am_hh X S5 L) Q := by
      intro S5 b' h5 hb5 e
      subst e
      have hn5 : S5 20 4 = nI n := by rw [h5.1 20 (by omega) (by omega)]; exact hn
      have e205 : am_sub S5 20 = am_sub S 20 := am_sub_c (fun a a1 a2 => h5.1 a (by omega) (by omega))
      by_cases c : 720 ≤ nI (i + 1)
      · exact wl_fo_x (fun _ => hQ S5 h5 hb5) (fun z => absurd c z)
      · exact wl_fo_x (fun _ => hQ S5 h5 hb5) (fun _ => hQ S5 h5 hb5)
    refine wl_fo (g := g) (n := n) (r := lg l) hm (by rw [hO.1 20 (by omega) (by omega)]; exact hn) h1 h6 hl hvl (by rw [e20]; exact hf) hO.2.1 (by rw [e20]; exact hc0) (fun c => absurd c c720) (fun _ c => absurd c (by decide)) (fun _ _ c b4 S4 n4 => ?_) (fun _ _ c S5 t5 b6 S6 n6 => ?_)
    · rw [e25] at c
      rcases n4 with ⟨e1, -, e3⟩ | ⟨-, r', e2, -⟩
      · subst e3
        refine fin _ _ hO ?_ e1
        show OB (if vf (am_sub S 20 5) (lg l) (n - 1) 0 = true then oc_try (am_sub S 20) g n m (lf l) b else b) _
        rw [if_neg (show ¬ vf (am_sub S 20 5) (lg l) (n - 1) 0 = true from ne_true_of_eq_false c)]
        exact hb
      · rw [hno] at e2; exact absurd e2 (by simp)
    · rw [e25] at c
      have hO5 : OG m S S5 := ⟨fun a a1 a2 => by rw [t5.1 a (by omega) (by omega) a2, hO.1 a a1 a2], t5.2.1, by rw [t5.2.2.1 3 (by omega) (by omega)]; exact hO.2.2⟩
      have ht := t5.2.2.2
      rw [e20] at ht
      rcases n6 with ⟨e1, -, e3⟩ | ⟨-, r', e2, -⟩
      · subst e3
        refine fin _ _ hO5 ?_ e1
        show OB (if vf (am_sub S 20 5) (lg l) (n - 1) 0 = true then oc_try (am_sub S 20) g n m (lf l) b else b) _
        rw [if_pos (show vf (am_sub S 20 5) (lg l) (n - 1) 0 = true from c)]
        exact OB_try hb hl ht
      · rw [hno] at e2; exact absurd e2 (by simp)
  | cons l' r ih =>
    intro l i b S1 hch hv hi hO hl hb hQ
    simp only [List.length_cons] at hi
    obtain ⟨⟨p, hp1, hp2⟩, hch'⟩ := chn_2 hch
    have hvl := hv l List.mem_cons_self
    have c720 : ¬ 720 ≤ nI i := by
      rw [show (720 : Int32) = nI 720 from rfl, nI_leI (by omega) (by omega)]; omega
    have e20 : am_sub S1 20 = am_sub S 20 := am_sub_c (fun a a1 a2 => hO.1 a (by omega) (by omega))
    have e25 : S1 25 = S 25 := hO.1 25 (by omega) (by omega)
    have hQ' : ∀ S', OG m S S' → OB (oc_fs (am_sub S 20) g n m (l' :: r) (if vf (am_sub S 20 5) (lg l) (n - 1) 0 = true then oc_try (am_sub S 20) g n m (lf l) b else b)) S' → Q none (am_hh X S' L) := hQ
    have go : ∀ (S5 S6 : Nat → Nat → Int32) (b' : Bool) (bb : Int32 × Int32 × (Nat → Int32)), OG m S S5 → OB bb S5 → NR 278 (lg l) n S5 S6 b' → (∀ S', OG m S S' → OB (oc_fs (am_sub S 20) g n m (l' :: r) bb) S' → Q none (am_hh X S' L)) → am_ex (d + 6) 89 42 [some (.ref 277), some (.int (nI m)), some (.int (bI b')), some (.int (nI (i + 1)))] [] (am_hh X S6 L) Q := by
      intro S5 S6 b' bb h5 hb5 nr hq
      rcases nr with ⟨-, e2, -⟩ | ⟨e1, r', e2, e3, e4⟩
      · rw [hp1] at e2; exact absurd e2 (by simp)
      · rw [hp1] at e2
        injection e2 with e2
        subst e2
        subst e1
        refine ih l' (i + 1) bb S6 hch' (fun l2 h2 => hv l2 (List.mem_cons_of_mem l h2)) (by simp only [List.length_cons]; omega) ⟨fun a a1 a2 => by rw [e3 a (by omega), h5.1 a a1 a2], ?_, by rw [e3 277 (by omega)]; exact h5.2.2⟩ (fun k hk => by rw [e4 k hk, hp2 k hk]; rfl) ?_ hq
        · rw [am_sub_c (S' := S6) (S := S5) (fun a a1 a2 => e3 a (by omega))]; exact h5.2.1
        · unfold OB
          rw [e3 277 (by omega), e3 279 (by omega)]
          exact hb5
    refine wl_fo (g := g) (n := n) (r := lg l) hm (by rw [hO.1 20 (by omega) (by omega)]; exact hn) h1 h6 hl hvl (by rw [e20]; exact hf) hO.2.1 (by rw [e20]; exact hc0) (fun c => absurd c c720) (fun _ c => absurd c (by decide)) (fun _ _ c b4 S4 n4 => ?_) (fun _ _ c S5 t5 b6 S6 n6 => ?_)
    · rw [e25] at c
      rw [if_neg (show ¬ vf (am_sub S 20 5) (lg l) (n - 1) 0 = true from ne_true_of_eq_false c)] at hQ'
      exact go S1 S4 b4 b hO hb n4 hQ'
    · rw [e25] at c
      rw [if_pos (show vf (am_sub S 20 5) (lg l) (n - 1) 0 = true from c)] at hQ'
      have hO5 : OG m S S5 := ⟨fun a a1 a2 => by rw [t5.1 a (by omega) (by omega) a2, hO.1 a a1 a2], t5.2.1, by rw [t5.2.2.1 3 (by omega) (by omega)]; exact hO.2.2⟩
      have ht := t5.2.2.2
      rw [e20] at ht
      exact go S5 S6 b6 _ hO5 (OB_try hb hl ht) n6 hQ'
theorem pm_hd (hn6 : n ≤ 6) : ∃ r, pmt n = [0, 1, 2, 3, 4, 5] :: r ∧ (pmt n).length ≤ 720 := by
  have h := List.all_eq_true.mp pm_len n (List.mem_range.mpr (by omega))
  rw [Bool.and_eq_true] at h
  have h1 := of_decide_eq_true h.1
  have h2 := of_decide_eq_true h.2
  cases e : pmt n with
  | nil => rw [e] at h2; exact absurd h2 (by simp)
  | cons l r =>
    rw [e] at h1 h2
    injection h2 with h2
    subst h2
    exact ⟨r, rfl, h1⟩
theorem rk0_lf : ∀ k, k < 6 → rk0 k = lf [0, 1, 2, 3, 4, 5] k := by
  intro k hk
  match k, hk with
  | 0, _ => rfl
  | 1, _ => rfl
  | 2, _ => rfl
  | 3, _ => rfl
  | 4, _ => rfl
  | 5, _ => rfl
theorem oc_3 {r : List (List Nat)} {l : List Nat} {b : Int32 × Int32 × (Nat → Int32)} {f : Nat → Int32} : ∀ (r : List (List Nat)) (b b' : Int32 × Int32 × (Nat → Int32)), b.1 = b'.1 → b.2.1 = b'.2.1 → (∀ k, k < 6 → b.2.2 k = b'.2.2 k) → (oc_f W g n m r b).1 = (oc_f W g n m r b').1 ∧ (oc_f W g n m r b).2.1 = (oc_f W g n m r b').2.1 ∧ ∀ k, k < 6 → (oc_f W g n m r b).2.2 k = (oc_f W g n m r b').2.2 k := by
  intro r
  induction r with
  | nil => intro b b' h1 h2 h3; exact ⟨h1, h2, h3⟩
  | cons l r ih =>
    intro b b' h1 h2 h3
    show (oc_f W g n m r (oc_try W g n m (lf l) b)).1 = (oc_f W g n m r (oc_try W g n m (lf l) b')).1 ∧ _
    have e : (oc_try W g n m (lf l) b).1 = (oc_try W g n m (lf l) b').1 ∧ (oc_try W g n m (lf l) b).2.1 = (oc_try W g n m (lf l) b').2.1 ∧ ∀ k, k < 6 → (oc_try W g n m (lf l) b).2.2 k = (oc_try W g n m (lf l) b').2.2 k := by
      unfold oc_try
      rw [h1, h2]
      split
      · refine ⟨rfl, rfl, fun k hk => ?_⟩
        show va_cpy (lf l) b.2.2 0 0 6 k = va_cpy (lf l) b'.2.2 0 0 6 k
        unfold va_cpy
        rw [if_pos (by omega), if_pos (by omega)]
      · exact ⟨h1, h2, h3⟩
    exact ih _ _ e.1 e.2.1 e.2.2
theorem oc_any {b : Int32 × Int32 × (Nat → Int32)} (hn6 : n ≤ 6) (h1 : b.1 = -1) (h2 : b.2.1 = -1) (hne : 0 ≤ oc_off W g n m (lf [0, 1, 2, 3, 4, 5])) : (oc_f W g n m (pmt n) b).1 = (oc_res W g n m).1 ∧ (oc_f W g n m (pmt n) b).2.1 = (oc_res W g n m).2.1 ∧ ∀ k, k < 6 → (oc_f W g n m (pmt n) b).2.2 k = (oc_res W g n m).2.2 k := by
  obtain ⟨r, er, -⟩ := pm_hd hn6
  unfold oc_res
  rw [er]
  show (oc_f W g n m r (oc_try W g n m (lf [0, 1, 2, 3, 4, 5]) b)).1 = (oc_f W g n m r (oc_try W g n m (lf [0, 1, 2, 3, 4, 5]) (-1, -1, fun _ => 0))).1 ∧ _
  have hlt : (-1 : Int32) < oc_off W g n m (lf [0, 1, 2, 3, 4, 5]) := Int32.lt_of_lt_of_le (by decide) hne
  have e1 : oc_try W g n m (lf [0, 1, 2, 3, 4, 5]) b = (oc_off W g n m (lf [0, 1, 2, 3, 4, 5]), oc_rid W g n m (lf [0, 1, 2, 3, 4, 5]), va_cpy (lf [0, 1, 2, 3, 4, 5]) b.2.2 0 0 6) := by
    unfold oc_try
    rw [if_pos (Or.inl (by rw [h1]; exact hlt))]
  have e2 : oc_try W g n m (lf [0, 1, 2, 3, 4, 5]) (-1, -1, fun _ => 0) = (oc_off W g n m (lf [0, 1, 2, 3, 4, 5]), oc_rid W g n m (lf [0, 1, 2, 3, 4, 5]), va_cpy (lf [0, 1, 2, 3, 4, 5]) (fun _ => 0) 0 0 6) := by
    unfold oc_try
    rw [if_pos (Or.inl hlt)]
  refine oc_3 (r := r) (l := []) (b := b) (f := rk0) r _ _ (by rw [e1, e2]) (by rw [e1, e2]) (fun k hk => ?_)
  rw [e1, e2]
  show va_cpy (lf [0, 1, 2, 3, 4, 5]) b.2.2 0 0 6 k = va_cpy (lf [0, 1, 2, 3, 4, 5]) (fun _ => 0) 0 0 6 k
  unfold va_cpy
  rw [if_pos (by omega), if_pos (by omega)]
theorem off_0 (hn6 : n ≤ 6) (rk : Nat → Int32) : 0 ≤ oc_off W g n m rk := by
  unfold oc_off
  obtain ⟨T, hT, hTw, -⟩ := wh_T (w_it rk g n m W) 2 hn6
  rw [hTw, w_bits_n (p2_64 hn6 hT)]
  exact nI_pos' (by have := pcnt_le (T := T); omega)
theorem kt_findOrder (hm : m < 1000) (hn : S 20 4 = nI n) (h1 : 1 ≤ n) (h6 : n ≤ 6) (hf : wF (am_sub S 20) g n) (hc9 : w_cl (am_sub S 29)) (hc0 : w_cl (am_sub S 20)) (hJ : S 277 3 = nI m → S 277 6 = (oc_res (am_sub S 20) g n m).1 ∧ ∀ k, k < 6 → S 279 k = (oc_res (am_sub S 20) g n m).2.2 k) (hQ : ∀ S', FO (am_sub S 20) g n m S S' → Q none (am_hh X S' L)) : am_mt (d + 6) 89 [.ref 277, .int (nI m)] (am_hh X S L) Q := by
  refine wp_fo (fun c => ?_) (fun c => hQ S ⟨⟨fun _ _ _ => rfl, hc9, c⟩, hJ c⟩)
  obtain ⟨r, er, hlen⟩ := pm_hd h6
  generalize hS1 : am_uc (am_u (am_u (am_u S 277 3 (nI m)) 277 6 (-1)) 277 4 (-1)) 278 (va_cpy rk0 (S 278) 0 0 6) = S1
  have f1 : ∀ a, a ≠ 277 → a ≠ 278 → S1 a = S a := fun a a1 a2 => by
    rw [← hS1, am_uc_ne _ a2, am_u_ne _ a1, am_u_ne _ a1, am_u_ne _ a1]
  have hch := List.all_eq_true.mp pm_chn n (List.mem_range.mpr (by omega))
  rw [er] at hch hlen
  have hO : OG m S S1 := by
    refine ⟨fun a a1 a2 => f1 a (by omega) (by omega), ?_, ?_⟩
    · rw [am_sub_c (S' := S1) (S := S) (fun a a1 a2 => f1 a (by omega) (by omega))]; exact hc9
    · rw [← hS1, am_uc_ne _ (by omega), am_u_ni _ (by omega), am_u_ni _ (by omega), am_u_eq]
  have hb : OB (-1, -1, S 279) S1 := by
    refine ⟨?_, ?_, fun k _ => by rw [f1 279 (by omega) (by omega)]⟩
    · rw [← hS1, am_uc_ne _ (by omega), am_u_ni _ (by omega), am_u_eq]
    · rw [← hS1, am_uc_ne _ (by omega), am_u_eq]
  refine fo_lp (S := S) hm hn h1 h6 hf hc0 r [0, 1, 2, 3, 4, 5] 0 (-1, -1, S 279) S1 hch (fun l hl k hk => (pm_6 h6 l (by rw [er]; exact hl) k hk).1) (by omega) hO (fun k hk => ?_) hb (fun S' h' hb' => hQ S' ⟨h', ?_⟩)
  · rw [← hS1, am_uc_eq]
    unfold va_cpy
    rw [if_pos (by omega), show 0 + (k - 0) = k by omega]
    exact rk0_lf k hk
  · rw [← er, fs_res h6] at hb'
    obtain ⟨x1, -, x3⟩ := oc_any (W := am_sub S 20) (g := g) (m := m) (b := (-1, -1, S 279)) h6 rfl rfl (off_0 h6 _)
    exact ⟨hb'.1.trans x1, fun k hk => (hb'.2.2 k hk).trans (x3 k hk)⟩
end ORD4
