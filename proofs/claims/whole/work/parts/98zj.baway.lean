section BAWAY
variable {d : Nat} {X : Nat × (Nat → Int32)} {S W : Nat → Nat → Int32} {L : Nat → Int64} {g n t T p : Nat} {q : Int32} {Q : Option Value → am_H → Prop}
def aw_ok (W : Nat → Nat → Int32) (g n t s : Nat) : Bool := decide (w_cn rk0 g n t (gn s n 0 W) = 0)
theorem cc_ca {ok : Nat → Bool} (s : Nat) : cc p T ok s ≤ ca p T s := by
  unfold cc ca
  by_cases h : s &&& T = s ∧ ok s = true
  · rw [if_pos h, if_pos h.1]; exact Nat.le_refl _
  · rw [if_neg h]; exact Nat.zero_le _
theorem ca_le (hp : p ≤ 10) (s : Nat) : ca p T s ≤ 1000000 := by
  unfold ca
  have := pc_le (T := T) (s := s) hp 6 0 1
  split
  · have e : 1 * 10 ^ 6 = 1000000 := by decide
    omega
  · omega
theorem pc6_le (hp : p ≤ 10) (s : Nat) : pc p T s 6 0 1 ≤ 1000000 := by
  have := pc_le (T := T) (s := s) hp 6 0 1
  have e : 1 * 10 ^ 6 = 1000000 := by decide
  omega
theorem p10_le (T : Nat) : 10 ^ pcnt T ≤ 1000000 := by
  have h : 10 ^ pcnt T ≤ 10 ^ 6 := Nat.pow_le_pow_right (by omega) pcnt_le
  have e : 10 ^ 6 = 1000000 := by decide
  omega
theorem gcd_b {a b : Nat} (ha : 0 < a) : 0 < Nat.gcd a b ∧ Nat.gcd a b ≤ a := ⟨Nat.gcd_pos_of_pos_left b ha, Nat.le_of_dvd ha (Nat.gcd_dvd_left a b)⟩
theorem bm1 {c s : Nat} (h : c ≤ s * 1000000) : c ≤ (s + 1) * 1000000 := Nat.le_trans h (Nat.mul_le_mul_right _ (Nat.le_succ s))
theorem bm2 {c s x : Nat} (h : c ≤ s * 1000000) (hx : x ≤ 1000000) : c + x ≤ (s + 1) * 1000000 := by
  rw [Nat.succ_mul]; exact Nat.add_le_add h hx
theorem kt_findAway (ht : t < 1000) (hT64 : T < 64) (hp10 : p ≤ 10) (hTw : w_wh (am_sub S 20) 0 n 0 0 = nI T) (hf : wF (am_sub S 20) g n) (hc9 : w_cl (am_sub S 29)) (hc0 : w_cl (am_sub S 20)) (G : Nat) (hG : G = sumN (cc p T (aw_ok (am_sub S 20) g n t)) 64 0 0) (hQ : ∀ W1, w_cl W1 → Q none (am_hh X (am_ovl S 29 W1) (am_ul (am_ul L 3 (lN G / lN (Nat.gcd (10 ^ pcnt T) G))) 4 (lN (10 ^ pcnt T) / lN (Nat.gcd (10 ^ pcnt T) G))))) : am_mt (d + 6) 120 [.ref 281, .int (nI t), .int (nI p)] (am_hh X S L) Q := by
  have hA1 : 0 < 10 ^ pcnt T := Nat.pow_pos (by omega)
  have hA2 := p10_le T
  have lp2 : ∀ (k s c : Nat) (V : Nat → Nat → Int32) (y9 : Option Value), s + k = 64 → w_cl V → c ≤ s * 1000000 → sumN (cc p T (aw_ok (am_sub S 20) g n t)) k s c = G → am_ex (d + 6) 120 44 [some (.ref 281), some (.int (nI t)), some (.int (nI p)), some (.int (nI T)), some (.long (lN c)), none, some (.long (lN (10 ^ pcnt T))), none, some (.int (nI s)), y9, none] [] (am_hh X (am_ovl S 29 V) L) Q := by
    intro k
    induction k with
    | zero =>
      intro s c V y9 hs hV hc e
      have e64 : s = 64 := by omega
      subst e64
      have e' : c = G := e
      subst e'
      have hg := gcd_b (b := c) hA1
      have hl : ¬ lg_cmp (lN (Nat.gcd (10 ^ pcnt T) c)) 0 = 0 := by
        rw [lgc_0 (by omega)]; omega
      exact wl_fa2 hT64 hp10 hf hV hc0 (fun _ => by omega) (fun _ => by omega) (fun _ _ z => hl ((lgc_0 (by omega)).mpr ((pk_lEQ (b := 0) (by omega) (by omega)).mp z))) (fun c => absurd (by decide) c) (fun c => absurd (by decide) c) (fun c => absurd (by decide) c) (fun _ _ => hQ V hV) (fun _ c => absurd c hl) (fun c => absurd (by decide) c) (fun c => absurd (by decide) c) (fun c => absurd (by decide) c) (fun c => absurd (by decide) c) (fun c => absurd (by decide) c) (fun c => absurd (by decide) c)
    | succ k ih =>
      intro s c V y9 hs hV hc e
      have h64 : ¬ 64 ≤ nI s := by
        rw [show (64 : Int32) = nI 64 from rfl, nI_leI (by omega) (by omega)]; omega
      have e' : sumN (cc p T (aw_ok (am_sub S 20) g n t)) k (s + 1) (c + cc p T (aw_ok (am_sub S 20) g n t) s) = G := e
      have hsub := sub_iff (s := s) (T := T) (by omega)
      have hpc := pc6_le (T := T) hp10 s
      have hcl : w_cl (w_sk rk0 g n 1 t 0 (gn s n 0 (am_sub S 20))).2 := w_sk_cl (wF_gn s n 0 _ hf) (w_cl_gn s n 0 _ (by have := hf.2.1; omega) hc0)
      have hsk : (w_sk rk0 g n 1 t 0 (gn s n 0 (am_sub S 20))).1 = nI (min (0 + w_cn rk0 g n t (gn s n 0 (am_sub S 20))) 1) := w_sk_cn (e := 1) (by omega) t _ 0 (by omega) (by omega)
      have hok : (w_sk rk0 g n 1 t 0 (gn s n 0 (am_sub S 20))).1 = 0 ↔ aw_ok (am_sub S 20) g n t s = true := by
        unfold aw_ok
        rw [hsk, show (0 : Int32) = nI 0 from rfl, nI_eq (by omega) (by omega), decide_eq_true_iff]
        omega
      have l0 : lg_cmp 0 0 ≤ 0 := by decide
      unfold cc at e'
      refine wl_fa2 hT64 hp10 hf hV hc0 (fun c => absurd c h64) (fun c => absurd c h64) (fun c => absurd c h64) (fun _ _ _ => ht) (fun _ _ => by omega) (fun _ _ _ => ht) (fun c => absurd c h64) (fun c => absurd c h64) (fun _ c1 _ => ?_) (fun _ _ c2 => absurd l0 c2) (fun _ _ c2 => absurd l0 c2) (fun _ c1 c2 => ?_) (fun _ c1 c2 c3 => ?_) (fun _ c1 c2 c3 => ?_)
      · rw [if_neg (fun z => c1 (hsub.mpr z.1)), Nat.add_zero] at e'
        exact ih (s + 1) c V _ (by omega) hV (bm1 hc) e'
      · rw [lgc_le (by omega)] at c2
        rw [c2, ite_self, Nat.add_zero] at e'
        exact ih (s + 1) c V _ (by omega) hV (bm1 hc) e'
      · rw [hok] at c3
        rw [if_neg (fun z => c3 z.2), Nat.add_zero] at e'
        rw [show lN c + 0 = lN c from lN_add c 0]
        exact ih (s + 1) c _ _ (by omega) hcl (bm1 hc) e'
      · rw [hok] at c3
        rw [if_pos ⟨hsub.mp c1, c3⟩] at e'
        rw [lN_add]
        exact ih (s + 1) _ _ _ (by omega) hcl (bm2 hc hpc) e'
  have lp1 : ∀ (k i a : Nat), i + k = pcnt T → a * 10 ^ k = 10 ^ pcnt T → am_ex (d + 6) 120 18 [some (.ref 281), some (.int (nI t)), some (.int (nI p)), some (.int (nI T)), some (.long 0), none, some (.long (lN a)), none, some (.int (nI i)), none, none] [] (am_hh X S L) Q := by
    have h6 := pcnt_le (T := T)
    intro k
    induction k with
    | zero =>
      intro i a hi ha
      have c0 : nI (pcnt T) ≤ nI i := by rw [show i = pcnt T by omega]; exact Int32.le_rfl
      refine wl_fa1 hT64 (fun _ => ?_) (fun c => absurd c0 c)
      have e : a = 10 ^ pcnt T := by rw [← ha, Nat.pow_zero, Nat.mul_one]
      subst e
      have := lp2 64 0 0 (am_sub S 29) none (by omega) hc9 (by omega) hG.symm
      rw [am_ovl_sub] at this
      exact this
    | succ k ih =>
      intro i a hi ha
      have c0 : ¬ nI (pcnt T) ≤ nI i := by rw [nI_leI (by omega) (by omega)]; omega
      refine wl_fa1 hT64 (fun c => absurd c c0) (fun _ => ?_)
      rw [show lN a * 10 = lN (a * 10) from lN_mul a 10]
      refine ih (i + 1) _ (by omega) ?_
      rw [← ha, Nat.pow_succ, Nat.mul_assoc, Nat.mul_comm 10]
  refine wp_findAway hf hTw ?_
  rw [hTw]
  exact lp1 (pcnt T) 0 1 (by omega) (Nat.one_mul _)
theorem am_u_id (S1 : Nat → Nat → Int32) (c i : Nat) : am_u S1 c i (S1 c i) = S1 := by
  funext a j
  rw [am_u_at]
  split
  · rename_i h; rw [h.1, h.2]
  · rfl
theorem bv_0 {T i : Nat} (hT : T < 64) (hi : i < 6) : (((nI T) >>> ((nI i) &&& 31)) &&& 1) = 0 ↔ ¬ T.testBit i = true := by
  rw [bt_e hT hi]
  by_cases h : T.testBit i = true
  · rw [if_pos h]; exact ⟨fun z => absurd z (by decide), fun z => absurd h z⟩
  · rw [if_neg h]; exact ⟨fun _ => h, fun _ => rfl⟩
theorem m_away_in (hK : JK S) (hn6 : n ≤ 6) (hn : S 285 7 = nI n) (ht : t < 1000) (hT64 : T < 64) (hp10 : p ≤ 10) (hTb : ∀ i, i < n → (T.testBit i = true ↔ W 5 i = 0)) {s c a : Nat} (hs : s < 64) (hsub : s &&& T = s) (hq : ∀ (e : Nat) (V S2 : Nat → Nat → Int32) (y12 y13 : Option Value), F8 S S2 → e = pc p T s n 0 1 → V = gn s n 0 W → am_ex (d + 8) 216 64 [some (.ref 285), some (.int (nI t)), some (.int (nI p)), some (.int q), some (.int (nI T)), some (.long (lN (c + if w_cn rk0 g n t V = 0 then e else 0))), none, some (.long (lN (a + e))), none, some (.int (nI (s + 1))), some (.long (lN e)), none, y12, y13] [] (am_hh X S2 L) Q) : ∀ (k i e : Nat) (V S1 : Nat → Nat → Int32) (y13 : Option Value), i + k = n → F8 S S1 → mR V S1 298 g n → (∀ j, i ≤ j → V 5 j = W 5 j) → pc p T s k i e = pc p T s n 0 1 → gn s k i V = gn s n 0 W → am_ex (d + 8) 216 95 [some (.ref 285), some (.int (nI t)), some (.int (nI p)), some (.int q), some (.int (nI T)), some (.long (lN c)), none, some (.long (lN a)), none, some (.int (nI s)), some (.long (lN e)), none, some (.int (nI i)), y13] [] (am_hh X S1 L) Q := by
  intro k
  induction k with
  | zero =>
    intro i e V S1 y13 hi hf1 hv hV he hg
    have e7 : S1 285 7 = nI n := by rw [hf1 285 (by omega)]; exact hn
    have c0 : S1 285 7 ≤ nI i := by rw [e7, show i = n by omega]; exact Int32.le_rfl
    have hsn : w_sn rk0 g n t V 0 = nI (0 + w_cn rk0 g n t V) := w_sn_cn t V 0
    have hle := w_cn_le (rk := rk0) (g := g) (n := n) t V
    have h0 : w_sn rk0 g n t V 0 = 0 ↔ w_cn rk0 g n t V = 0 := by
      rw [hsn, show (0 : Int32) = nI 0 from rfl, nI_eq (by omega) (by omega)]
      omega
    refine wl_ma2 hK hf1 hv (fun _ => ht) (fun c => absurd c0 c) (fun c => absurd c0 c) (fun c => absurd c0 c) (fun c => absurd c0 c) (fun _ S2 _ h2 cz => ?_) (fun _ S2 _ h2 cz => ?_) (fun c => absurd c0 c) (fun c => absurd c0 c) (fun c => absurd c0 c) (fun c => absurd c0 c)
    · rw [h0] at cz
      have := hq e V S2 (some (.int (nI i))) y13 (F8_t hf1 h2) he hg
      rw [if_neg cz, Nat.add_zero] at this
      rw [show lN c + 0 = lN c from lN_add c 0, lN_add]
      exact this
    · rw [h0] at cz
      have := hq e V S2 (some (.int (nI i))) y13 (F8_t hf1 h2) he hg
      rw [if_pos cz] at this
      rw [lN_add, lN_add]
      exact this
  | succ k ih =>
    intro i e V S1 y13 hi hf1 hv hV he hg
    have e7 : S1 285 7 = nI n := by rw [hf1 285 (by omega)]; exact hn
    have c0 : ¬ S1 285 7 ≤ nI i := by rw [e7, nI_leI (by omega) (by omega)]; omega
    have he' : pc p T s k (i + 1) (e * fac p T s i) = pc p T s n 0 1 := he
    have hg' : gn s k (i + 1) (if bt s i then am_u V 5 i 3 else V) = gn s n 0 W := hg
    unfold fac at he'
    have hsT : s.testBit i = true → T.testBit i = true := fun z => by
      rw [← hsub, Nat.testBit_and, Bool.and_eq_true] at z; exact z.2
    refine wl_ma2 hK hf1 hv (fun c => absurd c c0) (fun _ _ _ => by omega) (fun _ _ _ => by omega) (fun _ _ _ => by omega) (fun _ _ _ => by omega) (fun c => absurd c c0) (fun c => absurd c c0) (fun _ c1 c2 => ?_) (fun _ c1 c2 => ?_) (fun _ c1 c2 => ?_) (fun _ c1 c2 => ?_)
    · rw [bv_0 hT64 (by omega), Decidable.not_not] at c2
      rw [if_pos c2, if_neg (fun z => c1 ((bt_t hs (by omega)).mpr z))] at he'
      rw [if_neg c1] at hg'
      rw [p10 hp10, lN_mul, am_u_id]
      exact ih (i + 1) _ V S1 _ (by omega) hf1 hv (fun j hj => hV j (by omega)) he' hg'
    · rw [bv_0 hT64 (by omega)] at c2
      rw [if_neg c2] at he'
      rw [if_neg c1] at hg'
      rw [show lN e * 1 = lN (e * 1) from lN_mul e 1, am_u_id]
      exact ih (i + 1) _ V S1 _ (by omega) hf1 hv (fun j hj => hV j (by omega)) he' hg'
    · rw [bv_0 hT64 (by omega), Decidable.not_not] at c2
      rw [if_pos c2, if_pos ((bt_t hs (by omega)).mp c1)] at he'
      rw [if_pos c1] at hg'
      have hw0 : V 5 i = 0 := by rw [hV i (by omega)]; exact (hTb i (by omega)).mp c2
      rw [nI_l (by omega), lN_mul]
      refine ih (i + 1) _ _ _ _ (by omega) (F8_u hf1) (mR_how (Or.inr rfl) hv (by omega) (Or.inr (Or.inr rfl)) (by rw [hw0]; decide)) (fun j hj => ?_) he' hg'
      rw [am_u_ni _ (by omega)]
      exact hV j (by omega)
    · rw [bv_0 hT64 (by omega)] at c2
      exact absurd (hsT ((bt_t hs (by omega)).mp c1)) c2
theorem m_away_out (hR : mR W S 293 g n) (hK : JK S) (ht : t < 1000) (hT : T < 2 ^ n) (hp10 : p ≤ 10) (hTb : ∀ i, i < n → (T.testBit i = true ↔ W 5 i = 0)) (G A : Nat) (hG : G = sumN (cc p T (aw_ok W g n t)) (2 ^ n) 0 0) (hA : A = sumN (ca p T) (2 ^ n) 0 0) (hA0 : 0 < A) (hQ : ∀ S', F8 S S' → Q (some (.long (if q = 0 then lN G / lN (Nat.gcd G A) else lN A / lN (Nat.gcd G A)))) (am_hh X S' L)) : ∀ (k s c a : Nat) (S1 : Nat → Nat → Int32) (y10 y12 y13 : Option Value), s + k = 2 ^ n → F8 S S1 → c ≤ s * 1000000 → a ≤ s * 1000000 → sumN (cc p T (aw_ok W g n t)) k s c = G → sumN (ca p T) k s a = A → am_ex (d + 8) 216 64 [some (.ref 285), some (.int (nI t)), some (.int (nI p)), some (.int q), some (.int (nI T)), some (.long (lN c)), none, some (.long (lN a)), none, some (.int (nI s)), y10, none, y12, y13] [] (am_hh X S1 L) Q := by
  have hn := hR.1.2.1
  have hn6 := hR.1.2.2
  have h64 : 2 ^ n ≤ 64 := show 2 ^ n ≤ 2 ^ 6 from Nat.pow_le_pow_right (by omega) hn6
  intro k
  induction k with
  | zero =>
    intro s c a S1 y10 y12 y13 hs hf1 hc ha e1 e2
    have e7 : S1 285 7 = nI n := by rw [hf1 285 (by omega)]; exact hn
    have hle : (1 <<< ((S1 285 7) &&& 31)) ≤ nI s := by
      rw [e7, sh_n hn6, show s = 2 ^ n by omega]; exact Int32.le_rfl
    have e1' : c = G := e1
    have e2' : a = A := e2
    subst e1'
    subst e2'
    have hg := gcd_b (b := c) hA0
    rw [Nat.gcd_comm] at hg
    have hz : ¬ lN (Nat.gcd c a) = 0 := fun z => by
      have := (pk_lEQ (a := Nat.gcd c a) (b := 0) (by omega) (by omega)).mp z
      omega
    have hQ1 := hQ S1 hf1
    refine wl_ma1 hR hK hf1 (fun _ => by omega) (fun _ => by omega) (fun _ _ => hz) (fun _ _ => hz) (fun _ cq => ?_) (fun _ cq => ?_) (fun c => absurd hle c) (fun c => absurd hle c)
    · rw [if_neg cq] at hQ1; exact hQ1
    · rw [if_pos cq] at hQ1; exact hQ1
  | succ k ih =>
    intro s c a S1 y10 y12 y13 hs hf1 hc ha e1 e2
    have e7 : S1 285 7 = nI n := by rw [hf1 285 (by omega)]; exact hn
    have hle : ¬ (1 <<< ((S1 285 7) &&& 31)) ≤ nI s := by
      rw [e7, sh_n hn6, nI_leI (by omega) (by omega)]; omega
    have e1' : sumN (cc p T (aw_ok W g n t)) k (s + 1) (c + cc p T (aw_ok W g n t) s) = G := e1
    have e2' : sumN (ca p T) k (s + 1) (a + ca p T s) = A := e2
    have hsub := sub_iff (s := s) (T := T) (by omega)
    have hpc := pc6_le (T := T) hp10 s
    unfold cc at e1'
    unfold ca at e2'
    refine wl_ma1 hR hK hf1 (fun c => absurd c hle) (fun c => absurd c hle) (fun c => absurd c hle) (fun c => absurd c hle) (fun c => absurd c hle) (fun c => absurd c hle) (fun _ c1 => ?_) (fun _ c1 S4 hm4 hf4 => ?_)
    · rw [if_neg (fun z => c1 (hsub.mpr z.1)), Nat.add_zero] at e1'
      rw [if_neg (fun z => c1 (hsub.mpr z)), Nat.add_zero] at e2'
      exact ih (s + 1) c a S1 _ _ _ (by omega) hf1 (bm1 hc) (bm1 ha) e1' e2'
    · have hss := hsub.mp c1
      have hcut : pc p T s n 0 1 = pc p T s 6 0 1 := by
        have := pc_cut (p := p) (s := s) hT (6 - n) n 0 1 (by omega)
        rw [show n + (6 - n) = 6 by omega] at this
        exact this.symm
      refine m_away_in (W := W) (S := S) hK hn6 hn ht (p2_64 hn6 hT) hp10 hTb (by omega) hss ?_ n 0 1 W S4 y13 (by omega) (F8_t hf1 hf4) hm4 (fun _ _ => rfl) rfl rfl
      intro e V S2 y12' y13' hf2 he hV
      subst hV
      rw [hcut] at he
      subst he
      rw [if_pos hss] at e2'
      refine ih (s + 1) _ _ S2 _ _ _ (by omega) hf2 ?_ (bm2 ha hpc) ?_ e2'
      · refine bm2 hc ?_
        split
        · exact hpc
        · exact Nat.zero_le _
      · by_cases z : w_cn rk0 g n t (gn s n 0 W) = 0
        · rw [if_pos ⟨hss, decide_eq_true z⟩] at e1'
          rw [if_pos z]
          exact e1'
        · rw [if_neg (fun w => z (of_decide_eq_true w.2))] at e1'
          rw [if_neg z]
          exact e1'
theorem bo_away (J : JJ S) (p q r : Int32) : BO X 119 216 [.int p, .int q, .int r] S L := by
  have J0 := J
  obtain ⟨g, n, m, k, jR, jT, jF, jW, jK, jA, jI, jP, jQ, jC⟩ := J
  have hiff : ∀ S1, FR S S1 → (g_k_away S p q r ↔ g_m_away S1 p q r) := fun S1 h => by
    unfold g_k_away g_m_away
    rw [gs_iff jW, not_or, not_or, not_or, h.1 285 (by unfold scr; omega)]
  have heq : ∀ S1, FR S S1 → eg_k_away S p q r = eg_m_away S1 p q r := fun S1 h => by
    unfold eg_k_away eg_m_away
    rw [h.1 285 (by unfold scr; omega), eg_s3 (gs_iff jW) not_or not_or not_or]
  by_cases hg : g_k_away S p q r
  · obtain ⟨hn1, hR, hG⟩ := gs_y jW hg.1
    have hf := JW_wF jW
    have hn6 := hR.1.2.2
    obtain ⟨t, -, ht, rfl⟩ := go_i (a := 0) (b := 40) (by omega) (by omega) hg.2.1
    obtain ⟨a, -, ha, rfl⟩ := go_i (a := 0) (b := 10) (by omega) (by omega) hg.2.2.1
    obtain ⟨T, hT, hTw, hTb⟩ := wh_T (am_sub S 20) 0 hn6
    have hT64 := p2_64 hn6 hT
    have h64 : 2 ^ n ≤ 64 := show 2 ^ n ≤ 2 ^ 6 from Nat.pow_le_pow_right (by omega) hn6
    have hcutC : sumN (cc a T (aw_ok (am_sub S 20) g n t)) 64 0 0 = sumN (cc a T (aw_ok (am_sub S 20) g n t)) (2 ^ n) 0 0 := by
      have := sumN_cut (cc a T (aw_ok (am_sub S 20) g n t)) (2 ^ n) (fun s hs => by unfold cc; rw [if_neg (fun z => by have := sub_lt hT z.1; omega)]) (64 - 2 ^ n) (2 ^ n) 0 0 (by omega)
      rw [show 2 ^ n + (64 - 2 ^ n) = 64 by omega] at this
      exact this
    have hcutA : sumN (ca a T) 64 0 0 = sumN (ca a T) (2 ^ n) 0 0 := by
      have := sumN_cut (ca a T) (2 ^ n) (fun s hs => by unfold ca; rw [if_neg (fun z => by have := sub_lt hT z; omega)]) (64 - 2 ^ n) (2 ^ n) 0 0 (by omega)
      rw [show 2 ^ n + (64 - 2 ^ n) = 64 by omega] at this
      exact this
    have hA := aw_all hT64 ha
    rw [hcutA] at hA
    have hA0 : 0 < 10 ^ pcnt T := Nat.pow_pos (by omega)
    generalize hGd : sumN (cc a T (aw_ok (am_sub S 20) g n t)) 64 0 0 = G at hcutC
    refine bo_scr (v := .long (if r = 0 then lN G / lN (Nat.gcd G (10 ^ pcnt T)) else lN (10 ^ pcnt T) / lN (Nat.gcd G (10 ^ pcnt T)))) J0 (wv_k_away (d := 31) (A1 := lN G / lN (Nat.gcd (10 ^ pcnt T) G)) (A2 := lN (10 ^ pcnt T) / lN (Nat.gcd (10 ^ pcnt T) G)) (fun Q hQ => kt_findAway (by omega) hT64 ha hTw hf (jC 29 isW29) (jC 20 isW20) G hGd.symm hQ) hg (fun W5 h5 cr => ?_) (fun W5 h5 cr => ?_)) (fun S1 L1 hfr J1 => ?_)
    · rw [if_neg cr, Nat.gcd_comm G]
      exact ⟨_, _, rfl, rfl, FR_o h5⟩
    · rw [if_pos cr, Nat.gcd_comm G]
      exact ⟨_, _, rfl, rfl, FR_o h5⟩
    · have hR1 := FR_m hfr hR
      have hK1 := FR_K hfr jK
      refine wv_m_away (d := 31) (mR_F hR1 hK1) ((hiff S1 hfr).mp hg) ?_
      rw [← mR_wh hR1 0 n 0 0 (by omega), hTw]
      refine m_away_out (d := 31) (W := am_sub S 20) hR1 hK1 (by omega) hT ha hTb G (10 ^ pcnt T) hcutC hA.symm hA0 (fun S' h8 => ⟨_, _, rfl, rfl, F8_FR hfr.2.2.2 h8⟩) (2 ^ n) 0 0 0 S1 none none none (by omega) F8_r (by omega) (by omega) hcutC.symm hA
  · refine bo_scr (v := .long (eg_k_away S p q r)) J0 (wg_k_away (d := 31) hg ⟨_, _, rfl, rfl, FR_r (jC 29 isW29)⟩) (fun S1 L1 hfr J1 => wg_m_away (d := 31) (fun z => hg ((hiff S1 hfr).mpr z)) ⟨_, _, ?_, rfl, FR_r hfr.2.2.2⟩)
    rw [heq S1 hfr]
end BAWAY
