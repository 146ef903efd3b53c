/-! Who: what fits a row of leans. -/
def w_ls (g n : Nat) (t : Nat → Int32) : Nat → Nat → (Nat → Nat → Int32) → Bool
  | 0, _, _ => true
  | k + 1, i, W => if w_lean (w_ms W rk0 g n) g n (w_ms W rk0 g n 0 2) = t i then w_ls g n t k (i + 1) (w_ms W rk0 g n) else false
def gb (f : Nat → Bool) : Nat → Nat → Int32 → Int32
  | 0, _, x => x
  | k + 1, v, x => gb f k (v + 1) (if f v = true then x ||| (1 <<< (nI v &&& 31)) else x)
def gc (f : Nat → Bool) : Nat → Nat → Int32 → Int32
  | 0, _, y => y
  | k + 1, v, y => gc f k (v + 1) (if f v = true then y + 1 else y)
def gl (f : Nat → Bool) : Nat → Nat → Int32 → Int32
  | 0, _, z => z
  | k + 1, v, z => gl f k (v + 1) (if f v = true then (if z = -1000000 then nI v else z) else z)
def dc (f : Nat → Bool) : Nat → Int32 → Int32
  | 0, y => y
  | v + 1, y => dc f v (if f (v + 1) = true then y + 1 else y)
def dl (f : Nat → Bool) : Nat → Int32 → Int32
  | 0, z => z
  | v + 1, z => dl f v (if f (v + 1) = true then nI (v + 1) else z)
def fcnt (f : Nat → Bool) : Nat → Nat → Nat
  | 0, _ => 0
  | k + 1, v => (if f v = true then 1 else 0) + fcnt f k (v + 1)
def ffst (f : Nat → Bool) : Nat → Nat → Option Nat
  | 0, _ => none
  | k + 1, v => if f v = true then some v else ffst f k (v + 1)
def fo (o : Option Nat) (z : Int32) : Int32 := match o with
  | none => z
  | some x => nI x
theorem fcnt_s (f : Nat → Bool) : ∀ k v, fcnt f (k + 1) v = fcnt f k v + (if f (v + k) = true then 1 else 0) := by
  intro k
  induction k with
  | zero => intro v; show (if f v = true then 1 else 0) + 0 = 0 + (if f (v + 0) = true then 1 else 0); rw [Nat.add_zero, Nat.zero_add, Nat.add_zero]
  | succ k ih =>
    intro v
    have := ih (v + 1)
    show (if f v = true then 1 else 0) + fcnt f (k + 1) (v + 1) = (if f v = true then 1 else 0) + fcnt f k (v + 1) + _
    rw [this, show v + 1 + k = v + (k + 1) by omega, Nat.add_assoc]
theorem ffst_s (f : Nat → Bool) : ∀ k v z, fo (ffst f (k + 1) v) z = fo (ffst f k v) (if f (v + k) = true then nI (v + k) else z) := by
  intro k
  induction k with
  | zero =>
    intro v z
    show fo (if f v = true then some v else none) z = (if f (v + 0) = true then nI (v + 0) else z)
    rw [Nat.add_zero]
    split <;> rfl
  | succ k ih =>
    intro v z
    show fo (if f v = true then some v else ffst f (k + 1) (v + 1)) z = fo (if f v = true then some v else ffst f k (v + 1)) _
    by_cases e : f v = true
    · rw [if_pos e, if_pos e]; rfl
    · rw [if_neg e, if_neg e, ih (v + 1) z, show v + 1 + k = v + (k + 1) by omega]
theorem gc_eq (f : Nat → Bool) : ∀ k v y, gc f k v (nI y) = nI (y + fcnt f k v) := by
  intro k
  induction k with
  | zero => intro v y; rfl
  | succ k ih =>
    intro v y
    show gc f k (v + 1) (if f v = true then nI y + 1 else nI y) = nI (y + ((if f v = true then 1 else 0) + fcnt f k (v + 1)))
    by_cases e : f v = true
    · rw [if_pos e, if_pos e, nI_1, ih (v + 1) (y + 1)]
      congr 1
      omega
    · rw [if_neg e, if_neg e, ih (v + 1) y]
      congr 1
      omega
theorem dc_eq (f : Nat → Bool) : ∀ m y, dc f m (nI y) = nI (y + fcnt f m 1) := by
  intro m
  induction m with
  | zero => intro y; rfl
  | succ m ih =>
    intro y
    rw [fcnt_s, show 1 + m = m + 1 by omega]
    show dc f m (if f (m + 1) = true then nI y + 1 else nI y) = _
    by_cases e : f (m + 1) = true
    · rw [if_pos e, if_pos e, nI_1, ih (y + 1)]
      congr 1
      omega
    · rw [if_neg e, if_neg e, ih y]
      congr 1
theorem dl_eq (f : Nat → Bool) : ∀ m z, dl f m z = fo (ffst f m 1) z := by
  intro m
  induction m with
  | zero => intro z; rfl
  | succ m ih =>
    intro z
    rw [ffst_s, show 1 + m = m + 1 by omega]
    exact ih _
theorem gl_eq (f : Nat → Bool) : ∀ k v z, v + k < 1000 → gl f k v z = if z = -1000000 then fo (ffst f k v) (-1000000) else z := by
  intro k
  induction k with
  | zero =>
    intro v z _
    show z = if z = -1000000 then -1000000 else z
    split
    · assumption
    · rfl
  | succ k ih =>
    intro v z hv
    show gl f k (v + 1) (if f v = true then (if z = -1000000 then nI v else z) else z) = if z = -1000000 then fo (if f v = true then some v else ffst f k (v + 1)) (-1000000) else z
    rw [ih (v + 1) _ (by omega)]
    by_cases e : f v = true
    · rw [if_pos e, if_pos e]
      by_cases e2 : z = -1000000
      · rw [if_pos e2, if_pos e2, if_neg (fun q => nI_pos (n := v) (by omega) (by rw [q]; decide))]; rfl
      · rw [if_neg e2, if_neg e2, if_neg e2]
    · rw [if_neg e, if_neg e]
section WHO
variable {d : Nat} {X : Nat × (Nat → Int32)} {S : Nat → Nat → Int32} {L : Nat → Int64} {g n r f N j : Nat} {Q : Option Value → am_H → Prop} {W V : Nat → Nat → Int32} {t : Nat → Int32}
theorem leansAs_lp (hr : r < 8) (hfN : f + N ≤ 40) (ht : ∀ i, i < N → S (8 + 1 * r) (f + i) = t i) : ∀ k i W, i + k = N → wF W g n → w_cl W → (∀ W', w_cl W' → Q (some (.int (bI (w_ls g n t k i W)))) (am_hh X (am_ovl S 29 W') L)) → am_ex (d + 7) 118 3 [some (.ref 280), some (.ref (8 + 1 * r)), some (.int (nI f)), some (.int (nI N)), some (.int (nI i))] [] (am_hh X (am_ovl S 29 W) L) Q := by
  intro k
  induction k with
  | zero =>
    intro i W hi hw hc hQ
    have e : i = N := by omega
    subst e
    exact wl_leansAs hr hw (wF_ms hw) (fun c => absurd Int32.le_rfl c) (fun _ => hQ W hc) (fun c => absurd Int32.le_rfl c) (fun c => absurd Int32.le_rfl c)
  | succ k ih =>
    intro i W hi hw hc hQ
    have hc2 := w_cl_ms (rk := rk0) hw hc
    have et : am_ovl S 29 (w_ms W rk0 g n) (8 + 1 * r) (f + i) = t i := by
      rw [am_ovl_ne _ _ (by omega), ht i (by omega)]
    refine wl_leansAs hr hw (wF_ms hw) (fun _ => by omega) (fun c => ?_) (fun _ c => ?_) (fun _ c => ?_)
    · rw [nI_leI (by omega) (by omega)] at c; omega
    · rw [et] at c
      unfold w_ls at hQ
      rw [if_pos c] at hQ
      exact ih (i + 1) _ (by omega) (wF_ms hw) hc2 hQ
    · rw [et] at c
      unfold w_ls at hQ
      rw [if_neg c] at hQ
      exact hQ _ hc2
theorem kt_leansAs (hr : r < 8) (hfN : f + N ≤ 40) (ht : ∀ i, i < N → S (8 + 1 * r) (f + i) = t i) (hw : wF W g n) (hc : w_cl W) (hQ : ∀ W', w_cl W' → Q (some (.int (bI (w_ls g n t N 0 W)))) (am_hh X (am_ovl S 29 W') L)) : am_mt (d + 7) 118 [.ref 280, .ref (8 + 1 * r), .int (nI f), .int (nI N)] (am_hh X (am_ovl S 29 W) L) Q :=
  wp_leansAs (leansAs_lp hr hfN ht N 0 W (by omega) hw hc hQ)
/-- all else is as it was, but one place of a row, and the row of tries -/
def FB (c j : Nat) (S S1 : Nat → Nat → Int32) : Prop := (∀ a, a ≠ 298 → a ≠ c → S1 a = S a) ∧ (c ≠ 298 → ∀ i, i ≠ j → S1 c i = S c i)
theorem FB_r {c : Nat} : FB c j S S := ⟨fun _ _ _ => rfl, fun _ _ _ => rfl⟩
theorem FB_8 {c : Nat} {S1 S2 : Nat → Nat → Int32} (h : FB c j S S1) (h8 : F8 S1 S2) : FB c j S S2 := ⟨fun a h1 h2 => (h8 a h1).trans (h.1 a h1 h2), fun hc i hi => by rw [h8 c hc]; exact h.2 hc i hi⟩
theorem FB_u {c : Nat} {S1 : Nat → Nat → Int32} {v : Int32} (h : FB c j S S1) : FB c j S (am_u S1 c j v) := ⟨fun a h1 h2 => by rw [am_u_ne _ h2]; exact h.1 a h1 h2, fun hc i hi => by rw [am_u_ni _ hi]; exact h.2 hc i hi⟩
theorem FB_K {c : Nat} {S1 : Nat → Nat → Int32} (h : FB c j S S1) (hc : c ≠ 297) (hK : JK S) : JK S1 := JK_c hK (h.1 297 (by omega) (by omega))
theorem FB_e {c : Nat} {S1 : Nat → Nat → Int32} (h : FB c j S S1) (hc : c ≠ 298) : F8 S (am_u S1 c j (S c j)) := by
  intro a ha
  by_cases e : a = c
  · subst e
    funext i
    rw [am_u_at]
    by_cases z : i = j
    · rw [if_pos ⟨rfl, z⟩, z]
    · rw [if_neg (fun q => z q.2)]; exact h.2 hc i z
  · rw [am_u_ne _ e]; exact h.1 a ha e
theorem isSo_lp {c : Nat} (hc : c ≠ 297 ∧ c ≠ 288) (hK : JK S) (hr : r < 8) (hfN : f + N ≤ 40) (ht : ∀ i, i < N → S 288 (40 * r + f + i) = t i) : ∀ k i b V S1, i + k = N → FB c j S S1 → mR V S1 298 g n → (∀ S', FB c j S S' → Q (some (.int (bI (b && w_ls g n t k i V)))) (am_hh X S' L)) → am_ex (d + 8) 214 6 [some (.ref 285), some (.int (nI r)), some (.int (nI f)), some (.int (nI N)), some (.int (bI b)), some (.int (nI i))] [] (am_hh X S1 L) Q := by
  intro k
  induction k with
  | zero =>
    intro i b V S1 hi hB hv hQ
    have e : i = N := by omega
    subst e
    have hQ' := hQ S1 hB
    rw [show (b && w_ls g n t 0 i V) = b from Bool.and_true b] at hQ'
    exact wl_isSo (W := V) (S := S1) (FB_K hB hc.1 hK) F8_r hv (fun c => absurd Int32.le_rfl c) (fun _ => hQ') (fun c => absurd Int32.le_rfl c) (fun c => absurd Int32.le_rfl c) (fun c => absurd Int32.le_rfl c)
  | succ k ih =>
    intro i b V S1 hi hB hv hQ
    refine wl_isSo (W := V) (S := S1) (FB_K hB hc.1 hK) F8_r hv (fun _ _ _ _ _ => by omega) (fun c => ?_) (fun _ S2 hm hf c => ?_) (fun _ S2 hm hf c c2 => ?_) (fun _ S2 hm hf c c2 => ?_)
    · rw [nI_leI (by omega) (by omega)] at c; omega
    · rw [c] at hQ
      exact ih (i + 1) false _ S2 (by omega) (FB_8 hB hf) hm hQ
    all_goals
      obtain ⟨b', hb', e1, e2⟩ := hm.2.2.1
      have e288 : S2 288 (40 * r + f + i) = t i := by
        rw [(FB_8 hB hf).1 288 (by omega) (fun z => hc.2 z.symm), ht i (by omega)]
      rw [e2, e288, ← mR_lean hm hb', ← e1] at c2
      rw [c] at hQ
      unfold w_ls at hQ
    · rw [if_neg (show ¬ w_lean (w_ms V rk0 g n) g n (w_ms V rk0 g n 0 2) = t i from c2)] at hQ
      exact ih (i + 1) false _ S2 (by omega) (FB_8 hB hf) hm hQ
    · rw [if_pos (show w_lean (w_ms V rk0 g n) g n (w_ms V rk0 g n 0 2) = t i from c2)] at hQ
      exact ih (i + 1) true _ S2 (by omega) (FB_8 hB hf) hm hQ
theorem mt_isSo {c : Nat} {S1 : Nat → Nat → Int32} (hc : c ≠ 297 ∧ c ≠ 288) (hK : JK S) (hr : r < 8) (hfN : f + N ≤ 40) (ht : ∀ i, i < N → S 288 (40 * r + f + i) = t i) (hB : FB c j S S1) (hv : mR V S1 298 g n) {x y : Int32} (hx : x = nI r) (hy : y = nI f) (hQ : ∀ S', FB c j S S' → Q (some (.int (bI (w_ls g n t N 0 V)))) (am_hh X S' L)) : am_mt (d + 8) 214 [.ref 285, .int x, .int y, .int (nI N)] (am_hh X S1 L) Q := by
  subst hx
  subst hy
  exact wp_isSo (isSo_lp hc hK hr hfN ht N 0 true V S1 (by omega) hB hv hQ)
theorem mR_b2 {S1 : Nat → Nat → Int32} {v : Int32} (h : mR W S 293 g n) (hB : FB 290 j S S1) : mR (am_u W 2 j v) (am_u S1 290 j v) 293 g n := by
  refine mR_c (mR_k2 (Or.inl rfl) h (i0 := j) (v := v)) ?_ ?_ (fun i _ => ?_) (fun i _ => ?_) (fun i _ => ?_) (fun i _ => ?_)
  · rw [am_u_ne _ (by omega), am_u_ne _ (by omega), hB.1 285 (by omega) (by omega)]
  · rw [am_u_ne _ (by omega), am_u_ne _ (by omega), hB.1 285 (by omega) (by omega)]
  · rw [am_u_ne _ (by omega), am_u_ne _ (by omega), hB.1 293 (by omega) (by omega)]
  · rw [am_u_at, am_u_at]
    by_cases e : i = j
    · rw [if_pos ⟨rfl, e⟩, if_pos ⟨rfl, e⟩]
    · rw [if_neg (fun q => e q.2), if_neg (fun q => e q.2), hB.2 (by omega) i e]
  · rw [am_u_ne _ (by omega), am_u_ne _ (by omega), hB.1 291 (by omega) (by omega)]
  · rw [am_u_ne _ (by omega), am_u_ne _ (by omega), hB.1 292 (by omega) (by omega)]
theorem mR_b3 {S1 : Nat → Nat → Int32} {v : Int32} (h : mR W S 293 g n) (hB : FB 291 j S S1) : mR (am_u W 3 j v) (am_u S1 291 j v) 293 g n := by
  refine mR_c (mR_k3 (Or.inl rfl) h (i0 := j) (v := v)) ?_ ?_ (fun i _ => ?_) (fun i _ => ?_) (fun i _ => ?_) (fun i _ => ?_)
  · rw [am_u_ne _ (by omega), am_u_ne _ (by omega), hB.1 285 (by omega) (by omega)]
  · rw [am_u_ne _ (by omega), am_u_ne _ (by omega), hB.1 285 (by omega) (by omega)]
  · rw [am_u_ne _ (by omega), am_u_ne _ (by omega), hB.1 293 (by omega) (by omega)]
  · rw [am_u_ne _ (by omega), am_u_ne _ (by omega), hB.1 290 (by omega) (by omega)]
  · rw [am_u_at, am_u_at]
    by_cases e : i = j
    · rw [if_pos ⟨rfl, e⟩, if_pos ⟨rfl, e⟩]
    · rw [if_neg (fun q => e q.2), if_neg (fun q => e q.2), hB.2 (by omega) i e]
  · rw [am_u_ne _ (by omega), am_u_ne _ (by omega), hB.1 292 (by omega) (by omega)]
theorem mR_b4 {S1 : Nat → Nat → Int32} {v : Int32} (h : mR W S 293 g n) (hB : FB 292 j S S1) : mR (am_u W 4 j v) (am_u S1 292 j v) 293 g n := by
  refine mR_c (mR_k4 (Or.inl rfl) h (i0 := j) (v := v)) ?_ ?_ (fun i _ => ?_) (fun i _ => ?_) (fun i _ => ?_) (fun i _ => ?_)
  · rw [am_u_ne _ (by omega), am_u_ne _ (by omega), hB.1 285 (by omega) (by omega)]
  · rw [am_u_ne _ (by omega), am_u_ne _ (by omega), hB.1 285 (by omega) (by omega)]
  · rw [am_u_ne _ (by omega), am_u_ne _ (by omega), hB.1 293 (by omega) (by omega)]
  · rw [am_u_ne _ (by omega), am_u_ne _ (by omega), hB.1 290 (by omega) (by omega)]
  · rw [am_u_ne _ (by omega), am_u_ne _ (by omega), hB.1 291 (by omega) (by omega)]
  · rw [am_u_at, am_u_at]
    by_cases e : i = j
    · rw [if_pos ⟨rfl, e⟩, if_pos ⟨rfl, e⟩]
    · rw [if_neg (fun q => e q.2), if_neg (fun q => e q.2), hB.2 (by omega) i e]
end WHO
