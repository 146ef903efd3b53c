section ORD5
variable {d : Nat} {X : Nat × (Nat → Int32)} {S S1 S2 W : Nat → Nat → Int32} {L : Nat → Int64} {g n m : Nat} {q : Int32} {Q : Option Value → am_H → Prop}
def OM (S S1 : Nat → Nat → Int32) : Prop := ∀ a, a ≠ 297 → a ≠ 298 → a ≠ 304 → S1 a = S a
def ores (q : Int32) (n : Nat) (B : Int32 × Int32 × (Nat → Int32)) : Int32 := if q < 0 then B.1 else if nI n ≤ q then -1000000 else B.2.2 q.toNatClampNeg
theorem m_ord_lp (hm : m < 1000) (h1 : 1 ≤ n) (hR : mR W S 293 g n) : ∀ (r : List (List Nat)) (l : List Nat) (b : Int32 × Int32 × (Nat → Int32)) (S1 : Nat → Nat → Int32) (x y : Int32) (y6 y7 : Option Value), chn n (l :: r) = true → (∀ l', l' ∈ l :: r → ∀ k, k < 6 → lg l' k < 6 ∧ (k < n → lg l' k < n) ∧ (n ≤ k → n ≤ lg l' k)) → OM S S1 → (∀ k, k < 6 → S1 297 k = lf l k) → x = b.1 → y = b.2.1 → (∀ k, k < 6 → S1 304 k = b.2.2 k) → (∀ S', OM S S' → JK S' → Q (some (.int (ores q n (oc_f W g n m (l :: r) b)))) (am_hh X S' L)) → am_ex (d + 8) 200 40 [some (.ref 285), some (.int (nI m)), some (.int q), some (.int x), some (.int y), some (.int (bI true)), y6, y7] [] (am_hh X S1 L) Q := by
  have h6 := hR.1.2.2
  -- one order
  have one : ∀ (l : List Nat) (b : Int32 × Int32 × (Nat → Int32)) (S1 : Nat → Nat → Int32) (x y : Int32) (y6 y7 : Option Value), (∀ k, k < 6 → lg l k < 6 ∧ (k < n → lg l k < n) ∧ (n ≤ k → n ≤ lg l k)) → OM S S1 → (∀ k, k < 6 → S1 297 k = lf l k) → x = b.1 → y = b.2.1 → (∀ k, k < 6 → S1 304 k = b.2.2 k) → (∀ (b8 : Bool) (S5 S8 : Nat → Nat → Int32) (x y : Int32) (z6 z7 : Option Value), OM S S5 → NR 297 (lg l) n S5 S8 b8 → x = (oc_try W g n m (lf l) b).1 → y = (oc_try W g n m (lf l) b).2.1 → (∀ k, k < 6 → S5 304 k = (oc_try W g n m (lf l) b).2.2 k) → (∀ k, k < 6 → S5 297 k = lf l k) → am_ex (d + 8) 200 40 [some (.ref 285), some (.int (nI m)), some (.int q), some (.int x), some (.int y), some (.int (bI b8)), z6, z7] [] (am_hh X S8 L) Q) → am_ex (d + 8) 200 40 [some (.ref 285), some (.int (nI m)), some (.int q), some (.int x), some (.int y), some (.int (bI true)), y6, y7] [] (am_hh X S1 L) Q := by
    intro l b S1 x y y6 y7 hv hO hl hx hy h4 hq
    have hR1 : mR W S1 293 g n := mR_c hR (by rw [hO 285 (by omega) (by omega) (by omega)]) (by rw [hO 285 (by omega) (by omega) (by omega)]) (fun i _ => by rw [hO 293 (by omega) (by omega) (by omega)]) (fun i _ => by rw [hO 290 (by omega) (by omega) (by omega)]) (fun i _ => by rw [hO 291 (by omega) (by omega) (by omega)]) (fun i _ => by rw [hO 292 (by omega) (by omega) (by omega)])
    have hF1 : mF S1 g n := ⟨hR1.1.2, hR1.2.1.2, fun j hj => ⟨lg l j, (hv j hj).1, hl j hj⟩⟩
    have hrk : rkR (lf l) S1 n := ⟨fun i hi => ⟨lg l i, (hv i (by omega)).2.1 hi, rfl, hl i (by omega)⟩, fun i c1 c2 => ⟨lg l i, (hv i c2).2.2 c1, (hv i c2).1, rfl⟩⟩
    have key : ∀ (S5 S6 : Nat → Nat → Int32), F8 S1 S5 → mR (w_it (lf l) g n m W) S6 298 g n → F8 S5 S6 → OM S S6 ∧ w_bits (m_th S6 298 2 n 0 0) = oc_off W g n m (lf l) ∧ w_sum ((w_it (lf l) g n m W) 7) n 0 0 = oc_rid W g n m (lf l) := by
      intro S5 S6 f5 m6 f6
      refine ⟨fun a a1 a2 a3 => by rw [f6 a a2, f5 a a2, hO a a1 a2 a3], ?_, rfl⟩
      unfold oc_off
      rw [mR_wh m6 2 n 0 0 (by omega)]
    have better : ∀ (S5 S6 : Nat → Nat → Int32), F8 S1 S5 → F8 S5 S6 → (b.1 < oc_off W g n m (lf l) ∨ (oc_off W g n m (lf l) = b.1 ∧ b.2.1 < oc_rid W g n m (lf l))) → oc_try W g n m (lf l) b = (oc_off W g n m (lf l), oc_rid W g n m (lf l), va_cpy (lf l) b.2.2 0 0 6) ∧ (∀ k, k < 6 → am_uc S6 304 (va_cpy (S6 297) (S6 304) 0 0 6) 304 k = va_cpy (lf l) b.2.2 0 0 6 k) := by
      intro S5 S6 f5 f6 hb
      refine ⟨if_pos hb, fun k hk => ?_⟩
      rw [am_uc_eq]
      unfold va_cpy
      rw [if_pos (by omega), if_pos (by omega), f6 297 (by omega), f5 297 (by omega), show 0 + (k - 0) = k by omega]
      exact hl k hk
    have same : ¬ (b.1 < oc_off W g n m (lf l) ∨ (oc_off W g n m (lf l) = b.1 ∧ b.2.1 < oc_rid W g n m (lf l))) → oc_try W g n m (lf l) b = b := fun h => if_neg h
    subst hx
    subst hy
    refine wl_mord (rk := lf l) (r := lg l) hm h1 h6 hR1 hF1 hrk hl (fun k hk => (hv k hk).1) (fun c => absurd c (by decide)) (fun c => absurd c (by decide)) (fun c => absurd c (by decide)) (fun c => absurd c (by decide)) (fun _ S5 m5 f5 S6 m6 f6 c b8 S8 n8 => ?_) (fun _ S5 m5 f5 S6 m6 f6 c c2 b8 S8 n8 => ?_) (fun _ S5 m5 f5 S6 m6 f6 c c2 c3 b8 S8 n8 => ?_) (fun _ S5 m5 f5 S6 m6 f6 c c2 c3 b8 S8 n8 => ?_)
    · obtain ⟨k1, k2, k3⟩ := key S5 S6 f5 m6 f6
      rw [k2] at c
      obtain ⟨e1, e2⟩ := better S5 S6 f5 f6 (Or.inl c)
      refine hq b8 _ S8 _ _ _ _ (fun a a1 a2 a3 => by rw [am_uc_ne _ a3, k1 a a1 a2 a3]) n8 (by rw [e1, k2]) (by rw [e1, k3]) (fun k hk => by rw [e1]; exact e2 k hk) (fun k hk => by rw [am_uc_ne _ (by omega), f6 297 (by omega), f5 297 (by omega)]; exact hl k hk)
    · obtain ⟨k1, k2, k3⟩ := key S5 S6 f5 m6 f6
      rw [k2] at c c2
      have e1 := same (fun z => z.elim c (fun w => c2 w.1))
      exact hq b8 _ S8 _ _ _ _ k1 n8 (by rw [e1]) (by rw [e1]) (fun k hk => by rw [e1, f6 304 (by omega), f5 304 (by omega)]; exact h4 k hk) (fun k hk => by rw [f6 297 (by omega), f5 297 (by omega)]; exact hl k hk)
    · obtain ⟨k1, k2, k3⟩ := key S5 S6 f5 m6 f6
      rw [k2] at c c2
      rw [k3] at c3
      have e1 := same (fun z => z.elim c (fun w => Int32.not_lt.mpr c3 w.2))
      exact hq b8 _ S8 _ _ _ _ k1 n8 (by rw [e1]) (by rw [e1]) (fun k hk => by rw [e1, f6 304 (by omega), f5 304 (by omega)]; exact h4 k hk) (fun k hk => by rw [f6 297 (by omega), f5 297 (by omega)]; exact hl k hk)
    · obtain ⟨k1, k2, k3⟩ := key S5 S6 f5 m6 f6
      rw [k2] at c c2
      rw [k3] at c3
      obtain ⟨e1, e2⟩ := better S5 S6 f5 f6 (Or.inr ⟨c2, Int32.not_le.mp c3⟩)
      refine hq b8 _ S8 _ _ _ _ (fun a a1 a2 a3 => by rw [am_uc_ne _ a3, k1 a a1 a2 a3]) n8 (by rw [e1, k2]) (by rw [e1, k3]) (fun k hk => by rw [e1]; exact e2 k hk) (fun k hk => by rw [am_uc_ne _ (by omega), f6 297 (by omega), f5 297 (by omega)]; exact hl k hk)
  have fin : ∀ (B : Int32 × Int32 × (Nat → Int32)) (S1 : Nat → Nat → Int32) (x y : Int32) (y6 y7 : Option Value), OM S S1 → (∃ l, (∀ k, k < 6 → lg l k < 6 ∧ (k < n → lg l k < n) ∧ (n ≤ k → n ≤ lg l k)) ∧ ∀ k, k < 6 → S1 297 k = lf l k) → x = B.1 → (∀ k, k < 6 → S1 304 k = B.2.2 k) → (∀ S', OM S S' → JK S' → Q (some (.int (ores q n B))) (am_hh X S' L)) → am_ex (d + 8) 200 40 [some (.ref 285), some (.int (nI m)), some (.int q), some (.int x), some (.int y), some (.int (bI false)), y6, y7] [] (am_hh X S1 L) Q := by
    intro B S1 x y y6 y7 hO hl hx h4 hq
    obtain ⟨l, hv, hl⟩ := hl
    have hR1 : mR W S1 293 g n := mR_c hR (by rw [hO 285 (by omega) (by omega) (by omega)]) (by rw [hO 285 (by omega) (by omega) (by omega)]) (fun i _ => by rw [hO 293 (by omega) (by omega) (by omega)]) (fun i _ => by rw [hO 290 (by omega) (by omega) (by omega)]) (fun i _ => by rw [hO 291 (by omega) (by omega) (by omega)]) (fun i _ => by rw [hO 292 (by omega) (by omega) (by omega)])
    have hF1 : mF S1 g n := ⟨hR1.1.2, hR1.2.1.2, fun j hj => ⟨lg l j, (hv j hj).1, hl j hj⟩⟩
    have hrk : rkR (lf l) S1 n := ⟨fun i hi => ⟨lg l i, (hv i (by omega)).2.1 hi, rfl, hl i (by omega)⟩, fun i c1 c2 => ⟨lg l i, (hv i c2).2.2 c1, (hv i c2).1, rfl⟩⟩
    have hn := hR1.1.2.1
    have hOM : ∀ S2, (∀ a, a ≠ 297 → S2 a = S1 a) → OM S S2 := fun S2 h2 a a1 a2 a3 => by rw [h2 a a1, hO a a1 a2 a3]
    have hj : ∀ S2 : Nat → Nat → Int32, (∀ a, a ≠ 297 → S2 a = S1 a) → 0 ≤ q → ¬ S2 285 7 ≤ q → ∃ j, j < n ∧ q = nI j := fun S2 h2 c1 c2 => by
      rw [h2 285 (by omega), hn] at c2
      exact (rng_k (by omega) q).mp ⟨Int32.not_lt.mpr c1, c2⟩
    refine wl_mord (rk := lf l) (r := lg l) hm h1 h6 hR1 hF1 hrk hl (fun k hk => (hv k hk).1) (fun _ S2 _ h2 c1 c2 => ?_) (fun _ S2 j2 h2 c1 c2 => ?_) (fun _ S2 j2 h2 c1 c2 => ?_) (fun _ S2 j2 h2 c1 => ?_) (fun c => absurd c (by decide)) (fun c => absurd c (by decide)) (fun c => absurd c (by decide)) (fun c => absurd c (by decide))
    · obtain ⟨j, j1, rfl⟩ := hj S2 h2 c1 c2
      exact ix_n (by omega) (by omega)
    · have := hq S2 (hOM S2 h2) j2
      rw [h2 285 (by omega), hn] at c2
      unfold ores at this
      rw [if_neg (Int32.not_lt.mpr c1), if_pos c2] at this
      exact this
    · have := hq S2 (hOM S2 h2) j2
      have c2' := c2
      rw [h2 285 (by omega), hn] at c2'
      unfold ores at this
      rw [if_neg (Int32.not_lt.mpr c1), if_neg c2'] at this
      obtain ⟨j, j1, rfl⟩ := hj S2 h2 c1 c2
      rw [nI_clamp (by omega)] at this ⊢
      rw [h2 304 (by omega), h4 j (by omega)]
      exact this
    · have := hq S2 (hOM S2 h2) j2
      unfold ores at this
      rw [if_pos (Int32.not_le.mp c1)] at this
      rw [hx]
      exact this
  intro r
  induction r with
  | nil =>
    intro l b S1 x y y6 y7 hch hv hO hl hx hy h4 hQ
    have hno := chn_1 hch
    refine one l b S1 x y y6 y7 (hv l List.mem_cons_self) hO hl hx hy h4 ?_
    intro b8 S5 S8 x' y' z6 z7 hO5 n8 hx' hy' h5 h7
    rcases n8 with ⟨e1, -, e3⟩ | ⟨-, r', e2, -⟩
    · subst e3
      subst e1
      exact fin (oc_try W g n m (lf l) b) _ x' y' z6 z7 hO5 ⟨l, hv l List.mem_cons_self, h7⟩ hx' h5 hQ
    · rw [hno] at e2; exact absurd e2 (by simp)
  | cons l' r ih =>
    intro l b S1 x y y6 y7 hch hv hO hl hx hy h4 hQ
    obtain ⟨⟨p, hp1, hp2⟩, hch'⟩ := chn_2 hch
    refine one l b S1 x y y6 y7 (hv l List.mem_cons_self) hO hl hx hy h4 ?_
    intro b8 S5 S8 x' y' z6 z7 hO5 n8 hx' hy' h5 h7
    rcases n8 with ⟨-, e2, -⟩ | ⟨e1, r', e2, e3, e4⟩
    · rw [hp1] at e2; exact absurd e2 (by simp)
    · rw [hp1] at e2
      injection e2 with e2
      subst e2
      subst e1
      exact ih l' _ S8 x' y' z6 z7 hch' (fun l2 h2 => hv l2 (List.mem_cons_of_mem l h2)) (fun a a1 a2 a3 => by rw [e3 a a1, hO5 a a1 a2 a3]) (fun k hk => by rw [e4 k hk, hp2 k hk]; rfl) hx' hy' (fun k hk => by rw [e3 304 (by omega)]; exact h5 k hk) hQ
end ORD5
