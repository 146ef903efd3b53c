theorem wp_findAway {d : Nat} {X : Nat × (Nat → Int32)} {S : Nat → Nat → Int32} {L : Nat → Int64} {g n t p T : Nat} {Q : Option Value → am_H → Prop} (hf : wF (am_sub S 20) g n) (hTw : w_wh (am_sub S 20) 0 n 0 0 = nI T)  (k1 : am_ex (d + 6) 120 18 [some (.ref 281), some (.int (nI t)), some (.int (nI p)), some (.int (w_wh (am_sub S 20) 0 n 0 0)), some (.long 0), none, some (.long 1), none, some (.int 0), none, none] [] (am_hh X S L) Q) : am_mt (d + 6) 120 [.ref 281, .int (nI t), .int (nI p)] (am_hh X S L) Q := by
  refine ax_in (ls := [some (.ref 281), some (.int (nI t)), some (.int (nI p)), none, none, none, none, none, none, none, none]) rfl ?_
  refine ax_s (pc' := 1) (st' := [.ref 281]) rfl rfl rfl rfl ?_
  refine ax_get rfl (hh_281 _ _ _) rfl rfl rfl ?_
  show am_ex (d + 6) 120 4 [some (.ref 281), some (.int (nI t)), some (.int (nI p)), none, none, none, none, none, none, none, none] [.ref 20] (am_hh X S L) _
  refine ax_s (pc' := 5) (st' := [.int 0, .ref 20]) rfl rfl rfl rfl ?_
  refine ax_call (vs := [.ref 20, .int 0]) (rr := []) rfl rfl rfl ?_
  refine kw (am_hh_sub isW20 X S L) (am_hh_sub isW20 X S L).symm (fun _ => ct_whichAre (am_isW_k isW20 X S L) hf.1 hf.2.1) ?_
  show am_ex (d + 6) 120 8 [some (.ref 281), some (.int (nI t)), some (.int (nI p)), none, none, none, none, none, none, none, none] [.int (w_wh (am_sub S 20) 0 n 0 0)] (am_hh X S L) _
  refine ax_s (pc' := 9) (ls' := [some (.ref 281), some (.int (nI t)), some (.int (nI p)), some (.int (w_wh (am_sub S 20) 0 n 0 0)), none, none, none, none, none, none, none]) (st' := []) rfl rfl rfl rfl ?_
  refine ax_s (pc' := 10) (st' := [.long 0]) rfl rfl rfl rfl ?_
  refine ax_s (pc' := 12) (ls' := [some (.ref 281), some (.int (nI t)), some (.int (nI p)), some (.int (w_wh (am_sub S 20) 0 n 0 0)), some (.long 0), none, none, none, none, none, none]) (st' := []) rfl rfl rfl rfl ?_
  refine ax_s (pc' := 13) (st' := [.long 1]) rfl rfl rfl rfl ?_
  refine ax_s (pc' := 15) (ls' := [some (.ref 281), some (.int (nI t)), some (.int (nI p)), some (.int (w_wh (am_sub S 20) 0 n 0 0)), some (.long 0), none, some (.long 1), none, none, none, none]) (st' := []) rfl rfl rfl rfl ?_
  refine ax_s (pc' := 16) (st' := [.int 0]) rfl rfl rfl rfl ?_
  refine ax_s (pc' := 18) (ls' := [some (.ref 281), some (.int (nI t)), some (.int (nI p)), some (.int (w_wh (am_sub S 20) 0 n 0 0)), some (.long 0), none, some (.long 1), none, some (.int 0), none, none]) (st' := []) rfl rfl rfl rfl ?_
  exact k1
theorem wl_fa1 {d : Nat} {X : Nat × (Nat → Int32)} {S : Nat → Nat → Int32} {L : Nat → Int64} {t p T a i : Nat} {Q : Option Value → am_H → Prop} (hT64 : T < 64)  (k1 : (nI (pcnt T)) ≤ (nI i) → am_ex (d + 6) 120 44 [some (.ref 281), some (.int (nI t)), some (.int (nI p)), some (.int (nI T)), some (.long 0), none, some (.long (lN a)), none, some (.int 0), none, none] [] (am_hh X S L) Q) (k2 : ¬ (nI (pcnt T)) ≤ (nI i) → am_ex (d + 6) 120 18 [some (.ref 281), some (.int (nI t)), some (.int (nI p)), some (.int (nI T)), some (.long 0), none, some (.long ((lN a) * 10)), none, some (.int (nI (i + 1))), none, none] [] (am_hh X S L) Q) : am_ex (d + 6) 120 18 [some (.ref 281), some (.int (nI t)), some (.int (nI p)), some (.int (nI T)), some (.long 0), none, some (.long (lN a)), none, some (.int (nI i)), none, none] [] (am_hh X S L) Q := by
  refine ax_s (pc' := 20) (st' := [.int (nI i)]) rfl rfl rfl rfl ?_
  refine ax_s (pc' := 21) (st' := [.int (nI T), .int (nI i)]) rfl rfl rfl rfl ?_
  refine ax_call (vs := [.int (nI T)]) (rr := [.int (nI i)]) rfl rfl rfl ?_
  refine kt_bitCount rfl hT64 ?_
  show am_ex (d + 6) 120 24 [some (.ref 281), some (.int (nI t)), some (.int (nI p)), some (.int (nI T)), some (.long 0), none, some (.long (lN a)), none, some (.int (nI i)), none, none] [.int (nI (pcnt T)), .int (nI i)] (am_hh X S L) _
  refine ax_cmp_ge rfl (fun c1 => ?_) (fun c1 => ?_)
  · refine ax_s (pc' := 42) (st' := [.int 0]) rfl rfl rfl rfl ?_
    refine ax_s (pc' := 44) (ls' := [some (.ref 281), some (.int (nI t)), some (.int (nI p)), some (.int (nI T)), some (.long 0), none, some (.long (lN a)), none, some (.int 0), none, none]) (st' := []) rfl rfl rfl rfl ?_
    exact k1 c1
  · refine ax_s (pc' := 29) (st' := [.long (lN a)]) rfl rfl rfl rfl ?_
    refine ax_s (pc' := 32) (st' := [.long 10, .long (lN a)]) rfl rfl rfl rfl ?_
    refine ax_s (pc' := 33) (st' := [.long ((lN a) * 10)]) rfl rfl rfl rfl ?_
    refine ax_s (pc' := 35) (ls' := [some (.ref 281), some (.int (nI t)), some (.int (nI p)), some (.int (nI T)), some (.long 0), none, some (.long ((lN a) * 10)), none, some (.int (nI i)), none, none]) (st' := []) rfl rfl rfl rfl ?_
    refine ax_s (pc' := 38) (ls' := [some (.ref 281), some (.int (nI t)), some (.int (nI p)), some (.int (nI T)), some (.long 0), none, some (.long ((lN a) * 10)), none, some (.int ((nI i) + 1)), none, none]) (st' := []) rfl rfl rfl rfl ?_
    rw [nI_1]
    refine ax_s (pc' := 18) (st' := []) rfl rfl rfl rfl ?_
    exact k2 c1
theorem wl_fa2 {d : Nat} {X : Nat × (Nat → Int32)} {S : Nat → Nat → Int32} {L : Nat → Int64} {g n t p T a c s : Nat} {W : Nat → Nat → Int32} {y9 : Option Value} {Q : Option Value → am_H → Prop} (hT64 : T < 64) (hp10 : p ≤ 10) (hf : wF (am_sub S 20) g n) (hc1 : w_cl W) (hc0 : w_cl (am_sub S 20))  (x1 : 64 ≤ (nI s) → a < 2 ^ 49) (x2 : 64 ≤ (nI s) → c < 2 ^ 49) (x3 : 64 ≤ (nI s) → ¬ (lg_cmp (lN (Nat.gcd a c)) 0) = 0 → ¬ (lN (Nat.gcd a c)) = 0) (x4 : ¬ 64 ≤ (nI s) → ¬ ((nI s) &&& ((nI T) ^^^ (-1))) = 0 → ¬ (lg_cmp 0 0) ≤ 0 → t < 1000) (x5 : ¬ 64 ≤ (nI s) → ((nI s) &&& ((nI T) ^^^ (-1))) = 0 → s < 64) (x6 : ¬ 64 ≤ (nI s) → ((nI s) &&& ((nI T) ^^^ (-1))) = 0 → ¬ (lg_cmp (lN (pc p T s 6 0 1)) 0) ≤ 0 → t < 1000) (k1 : 64 ≤ (nI s) → ¬ (lg_cmp (lN (Nat.gcd a c)) 0) = 0 → Q none (am_hh X (am_ovl S 29 W) (am_ul (am_ul L 3 ((lN c) / (lN (Nat.gcd a c)))) 4 ((lN a) / (lN (Nat.gcd a c)))))) (k2 : 64 ≤ (nI s) → (lg_cmp (lN (Nat.gcd a c)) 0) = 0 → Q none (am_hh X (am_ovl S 29 W) (am_ul (am_ul L 3 0) 4 1))) (k3 : ¬ 64 ≤ (nI s) → ¬ ((nI s) &&& ((nI T) ^^^ (-1))) = 0 → (lg_cmp 0 0) ≤ 0 → am_ex (d + 6) 120 44 [some (.ref 281), some (.int (nI t)), some (.int (nI p)), some (.int (nI T)), some (.long (lN c)), none, some (.long (lN a)), none, some (.int (nI (s + 1))), some (.long 0), none] [] (am_hh X (am_ovl S 29 W) L) Q) (k4 : ¬ 64 ≤ (nI s) → ¬ ((nI s) &&& ((nI T) ^^^ (-1))) = 0 → ¬ (lg_cmp 0 0) ≤ 0 → ¬ (w_sk rk0 g n 1 t 0 (gn s n 0 (am_sub S 20))).1 = 0 → am_ex (d + 6) 120 44 [some (.ref 281), some (.int (nI t)), some (.int (nI p)), some (.int (nI T)), some (.long ((lN c) + 0)), none, some (.long (lN a)), none, some (.int (nI (s + 1))), some (.long 0), none] [] (am_hh X (am_ovl S 29 (w_sk rk0 g n 1 t 0 (gn s n 0 (am_sub S 20))).2) L) Q) (k5 : ¬ 64 ≤ (nI s) → ¬ ((nI s) &&& ((nI T) ^^^ (-1))) = 0 → ¬ (lg_cmp 0 0) ≤ 0 → (w_sk rk0 g n 1 t 0 (gn s n 0 (am_sub S 20))).1 = 0 → am_ex (d + 6) 120 44 [some (.ref 281), some (.int (nI t)), some (.int (nI p)), some (.int (nI T)), some (.long ((lN c) + 0)), none, some (.long (lN a)), none, some (.int (nI (s + 1))), some (.long 0), none] [] (am_hh X (am_ovl S 29 (w_sk rk0 g n 1 t 0 (gn s n 0 (am_sub S 20))).2) L) Q) (k6 : ¬ 64 ≤ (nI s) → ((nI s) &&& ((nI T) ^^^ (-1))) = 0 → (lg_cmp (lN (pc p T s 6 0 1)) 0) ≤ 0 → am_ex (d + 6) 120 44 [some (.ref 281), some (.int (nI t)), some (.int (nI p)), some (.int (nI T)), some (.long (lN c)), none, some (.long (lN a)), none, some (.int (nI (s + 1))), some (.long (lN (pc p T s 6 0 1))), none] [] (am_hh X (am_ovl S 29 W) L) Q) (k7 : ¬ 64 ≤ (nI s) → ((nI s) &&& ((nI T) ^^^ (-1))) = 0 → ¬ (lg_cmp (lN (pc p T s 6 0 1)) 0) ≤ 0 → ¬ (w_sk rk0 g n 1 t 0 (gn s n 0 (am_sub S 20))).1 = 0 → am_ex (d + 6) 120 44 [some (.ref 281), some (.int (nI t)), some (.int (nI p)), some (.int (nI T)), some (.long ((lN c) + 0)), none, some (.long (lN a)), none, some (.int (nI (s + 1))), some (.long (lN (pc p T s 6 0 1))), none] [] (am_hh X (am_ovl S 29 (w_sk rk0 g n 1 t 0 (gn s n 0 (am_sub S 20))).2) L) Q) (k8 : ¬ 64 ≤ (nI s) → ((nI s) &&& ((nI T) ^^^ (-1))) = 0 → ¬ (lg_cmp (lN (pc p T s 6 0 1)) 0) ≤ 0 → (w_sk rk0 g n 1 t 0 (gn s n 0 (am_sub S 20))).1 = 0 → am_ex (d + 6) 120 44 [some (.ref 281), some (.int (nI t)), some (.int (nI p)), some (.int (nI T)), some (.long ((lN c) + (lN (pc p T s 6 0 1)))), none, some (.long (lN a)), none, some (.int (nI (s + 1))), some (.long (lN (pc p T s 6 0 1))), none] [] (am_hh X (am_ovl S 29 (w_sk rk0 g n 1 t 0 (gn s n 0 (am_sub S 20))).2) L) Q) : am_ex (d + 6) 120 44 [some (.ref 281), some (.int (nI t)), some (.int (nI p)), some (.int (nI T)), some (.long (lN c)), none, some (.long (lN a)), none, some (.int (nI s)), y9, none] [] (am_hh X (am_ovl S 29 W) L) Q := by
  refine ax_s (pc' := 46) (st' := [.int (nI s)]) rfl rfl rfl rfl ?_
  refine ax_s (pc' := 48) (st' := [.int 64, .int (nI s)]) rfl rfl rfl rfl ?_
  refine ax_cmp_ge rfl (fun c1 => ?_) (fun c1 => ?_)
  · refine ax_s (pc' := 117) (st' := [.long (lN a)]) rfl rfl rfl rfl ?_
    refine ax_s (pc' := 119) (st' := [.long (lN c), .long (lN a)]) rfl rfl rfl rfl ?_
    refine ax_call (vs := [.long (lN a), .long (lN c)]) (rr := []) rfl rfl rfl ?_
    refine kt_cd (x1 c1) (x2 c1) ?_
    show am_ex (d + 6) 120 122 [some (.ref 281), some (.int (nI t)), some (.int (nI p)), some (.int (nI T)), some (.long (lN c)), none, some (.long (lN a)), none, some (.int (nI s)), y9, none] [.long (lN (Nat.gcd a c))] (am_hh X (am_ovl S 29 W) L) _
    refine ax_s (pc' := 124) (ls' := [some (.ref 281), some (.int (nI t)), some (.int (nI p)), some (.int (nI T)), some (.long (lN c)), none, some (.long (lN a)), none, some (.long (lN (Nat.gcd a c))), none, none]) (st' := []) rfl rfl rfl rfl ?_
    refine ax_s (pc' := 125) (st' := [.ref 281]) rfl rfl rfl rfl ?_
    refine ax_s (pc' := 127) (st' := [.long (lN (Nat.gcd a c)), .ref 281]) rfl rfl rfl rfl ?_
    refine ax_s (pc' := 128) (st' := [.long 0, .long (lN (Nat.gcd a c)), .ref 281]) rfl rfl rfl rfl ?_
    refine ax_s (pc' := 129) (st' := [.int (lg_cmp (lN (Nat.gcd a c)) 0), .ref 281]) rfl rfl rfl rfl ?_
    refine ax_if_ne rfl (fun c2 => ?_) (fun c2 => ?_)
    · refine ax_s (pc' := 138) (st' := [.long (lN c), .ref 281]) rfl rfl rfl rfl ?_
      refine ax_s (pc' := 140) (st' := [.long (lN (Nat.gcd a c)), .long (lN c), .ref 281]) rfl rfl rfl rfl ?_
      refine ax_ldiv rfl (x3 c1 c2) ?_
      refine ax_put rfl (hh_281 _ _ _) rfl rfl (show 3 + 1 ≤ _ from Nat.le_of_ble_eq_true rfl) rfl (am_hh_setL3 _ _ _ _) ?_
      refine ax_s (pc' := 145) (st' := [.ref 281]) rfl rfl rfl rfl ?_
      refine ax_s (pc' := 147) (st' := [.long (lN (Nat.gcd a c)), .ref 281]) rfl rfl rfl rfl ?_
      refine ax_s (pc' := 148) (st' := [.long 0, .long (lN (Nat.gcd a c)), .ref 281]) rfl rfl rfl rfl ?_
      refine ax_s (pc' := 149) (st' := [.int (lg_cmp (lN (Nat.gcd a c)) 0), .ref 281]) rfl rfl rfl rfl ?_
      refine ax_if_ne rfl (fun c3 => ?_) (fun c3 => False.elim (by first | exact c3 c2 | exact c2 c3))
      refine ax_s (pc' := 158) (st' := [.long (lN a), .ref 281]) rfl rfl rfl rfl ?_
      refine ax_s (pc' := 160) (st' := [.long (lN (Nat.gcd a c)), .long (lN a), .ref 281]) rfl rfl rfl rfl ?_
      refine ax_ldiv rfl (x3 c1 c2) ?_
      refine ax_put rfl (hh_281 _ _ _) rfl rfl (show 4 + 1 ≤ _ from Nat.le_of_ble_eq_true rfl) rfl (am_hh_setL4 _ _ _ _) ?_
      refine ax_r rfl rfl rfl ?_
      exact k1 c1 c2
    · refine ax_s (pc' := 133) (st' := [.long 0, .ref 281]) rfl rfl rfl rfl ?_
      refine ax_s (pc' := 141) (st' := [.long 0, .ref 281]) rfl rfl rfl rfl ?_
      refine ax_put rfl (hh_281 _ _ _) rfl rfl (show 3 + 1 ≤ _ from Nat.le_of_ble_eq_true rfl) rfl (am_hh_setL3 _ _ _ _) ?_
      refine ax_s (pc' := 145) (st' := [.ref 281]) rfl rfl rfl rfl ?_
      refine ax_s (pc' := 147) (st' := [.long (lN (Nat.gcd a c)), .ref 281]) rfl rfl rfl rfl ?_
      refine ax_s (pc' := 148) (st' := [.long 0, .long (lN (Nat.gcd a c)), .ref 281]) rfl rfl rfl rfl ?_
      refine ax_s (pc' := 149) (st' := [.int (lg_cmp (lN (Nat.gcd a c)) 0), .ref 281]) rfl rfl rfl rfl ?_
      refine ax_if_ne rfl (fun c4 => False.elim (by first | exact c4 c2 | exact c2 c4)) (fun c4 => ?_)
      refine ax_s (pc' := 153) (st' := [.long 1, .ref 281]) rfl rfl rfl rfl ?_
      refine ax_s (pc' := 161) (st' := [.long 1, .ref 281]) rfl rfl rfl rfl ?_
      refine ax_put rfl (hh_281 _ _ _) rfl rfl (show 4 + 1 ≤ _ from Nat.le_of_ble_eq_true rfl) rfl (am_hh_setL4 _ _ _ _) ?_
      refine ax_r rfl rfl rfl ?_
      exact k2 c1 c2
  · refine ax_s (pc' := 53) (st' := [.int (nI s)]) rfl rfl rfl rfl ?_
    refine ax_s (pc' := 54) (st' := [.int (nI T), .int (nI s)]) rfl rfl rfl rfl ?_
    refine ax_s (pc' := 55) (st' := [.int (-1), .int (nI T), .int (nI s)]) rfl rfl rfl rfl ?_
    refine ax_s (pc' := 56) (st' := [.int ((nI T) ^^^ (-1)), .int (nI s)]) rfl rfl rfl rfl ?_
    refine ax_s (pc' := 57) (st' := [.int ((nI s) &&& ((nI T) ^^^ (-1)))]) rfl rfl rfl rfl ?_
    refine ax_if_ne rfl (fun c5 => ?_) (fun c5 => ?_)
    · refine ax_s (pc' := 71) (st' := [.long 0]) rfl rfl rfl rfl ?_
      refine ax_s (pc' := 73) (ls' := [some (.ref 281), some (.int (nI t)), some (.int (nI p)), some (.int (nI T)), some (.long (lN c)), none, some (.long (lN a)), none, some (.int (nI s)), some (.long 0), none]) (st' := []) rfl rfl rfl rfl ?_
      refine ax_s (pc' := 75) (st' := [.long 0]) rfl rfl rfl rfl ?_
      refine ax_s (pc' := 76) (st' := [.long 0, .long 0]) rfl rfl rfl rfl ?_
      refine ax_s (pc' := 77) (st' := [.int (lg_cmp 0 0)]) rfl rfl rfl rfl ?_
      refine ax_if_le rfl (fun c6 => ?_) (fun c6 => ?_)
      · refine ax_s (pc' := 112) (ls' := [some (.ref 281), some (.int (nI t)), some (.int (nI p)), some (.int (nI T)), some (.long (lN c)), none, some (.long (lN a)), none, some (.int ((nI s) + 1)), some (.long 0), none]) (st' := []) rfl rfl rfl rfl ?_
        rw [nI_1]
        refine ax_s (pc' := 44) (st' := []) rfl rfl rfl rfl ?_
        exact k3 c1 c5 c6
      · refine ax_s (pc' := 81) (st' := [.ref 281]) rfl rfl rfl rfl ?_
        refine ax_s (pc' := 83) (st' := [.int (nI s), .ref 281]) rfl rfl rfl rfl ?_
        refine ax_call (vs := [.ref 281, .int (nI s)]) (rr := []) rfl rfl rfl ?_
        refine kt_without hf hc1 hc0 ?_
        show am_ex (d + 6) 120 86 [some (.ref 281), some (.int (nI t)), some (.int (nI p)), some (.int (nI T)), some (.long (lN c)), none, some (.long (lN a)), none, some (.int (nI s)), some (.long 0), none] [] (am_hh X (am_ovl S 29 (gn s n 0 (am_sub S 20))) L) _
        refine ax_s (pc' := 88) (st' := [.long (lN c)]) rfl rfl rfl rfl ?_
        refine ax_s (pc' := 89) (st' := [.ref 281, .long (lN c)]) rfl rfl rfl rfl ?_
        refine ax_get rfl (hh_281 _ _ _) rfl rfl rfl ?_
        show am_ex (d + 6) 120 92 [some (.ref 281), some (.int (nI t)), some (.int (nI p)), some (.int (nI T)), some (.long (lN c)), none, some (.long (lN a)), none, some (.int (nI s)), some (.long 0), none] [.ref 29, .long (lN c)] (am_hh X (am_ovl S 29 (gn s n 0 (am_sub S 20))) L) _
        refine ax_s (pc' := 93) (st' := [.int (nI t), .ref 29, .long (lN c)]) rfl rfl rfl rfl ?_
        refine ax_s (pc' := 94) (st' := [.int 1, .int (nI t), .ref 29, .long (lN c)]) rfl rfl rfl rfl ?_
        refine ax_call (vs := [.ref 29, .int (nI t), .int 1]) (rr := [.long (lN c)]) rfl rfl rfl ?_
        refine kw (am_hh_ov isW29 X S L (gn s n 0 (am_sub S 20))).symm (am_hh_ov isW29 X S L _) (fun _ => ct_sticksIn (rk := rk0) (am_isW_k isW29 X S L) (show wF (gn s n 0 (am_sub S 20)) g n from (wF_gn s n 0 _ hf)).1 (show wF (gn s n 0 (am_sub S 20)) g n from (wF_gn s n 0 _ hf)).2.1 (show wF (gn s n 0 (am_sub S 20)) g n from (wF_gn s n 0 _ hf)).2.2.1 (show wF (gn s n 0 (am_sub S 20)) g n from (wF_gn s n 0 _ hf)).2.2.2 (hh_s1 _ _ _) (x4 c1 c5 c6)) ?_
        show am_ex (d + 6) 120 97 [some (.ref 281), some (.int (nI t)), some (.int (nI p)), some (.int (nI T)), some (.long (lN c)), none, some (.long (lN a)), none, some (.int (nI s)), some (.long 0), none] [.int (w_sk rk0 g n 1 t 0 (gn s n 0 (am_sub S 20))).1, .long (lN c)] (am_hh X (am_ovl S 29 (w_sk rk0 g n 1 t 0 (gn s n 0 (am_sub S 20))).2) L) _
        refine ax_if_ne rfl (fun c7 => ?_) (fun c7 => ?_)
        · refine ax_s (pc' := 106) (st' := [.long 0, .long (lN c)]) rfl rfl rfl rfl ?_
          refine ax_s (pc' := 107) (st' := [.long ((lN c) + 0)]) rfl rfl rfl rfl ?_
          refine ax_s (pc' := 109) (ls' := [some (.ref 281), some (.int (nI t)), some (.int (nI p)), some (.int (nI T)), some (.long ((lN c) + 0)), none, some (.long (lN a)), none, some (.int (nI s)), some (.long 0), none]) (st' := []) rfl rfl rfl rfl ?_
          refine ax_s (pc' := 112) (ls' := [some (.ref 281), some (.int (nI t)), some (.int (nI p)), some (.int (nI T)), some (.long ((lN c) + 0)), none, some (.long (lN a)), none, some (.int ((nI s) + 1)), some (.long 0), none]) (st' := []) rfl rfl rfl rfl ?_
          rw [nI_1]
          refine ax_s (pc' := 44) (st' := []) rfl rfl rfl rfl ?_
          exact k4 c1 c5 c6 c7
        · refine ax_s (pc' := 102) (st' := [.long 0, .long (lN c)]) rfl rfl rfl rfl ?_
          refine ax_s (pc' := 106) (st' := [.long 0, .long (lN c)]) rfl rfl rfl rfl ?_
          refine ax_s (pc' := 107) (st' := [.long ((lN c) + 0)]) rfl rfl rfl rfl ?_
          refine ax_s (pc' := 109) (ls' := [some (.ref 281), some (.int (nI t)), some (.int (nI p)), some (.int (nI T)), some (.long ((lN c) + 0)), none, some (.long (lN a)), none, some (.int (nI s)), some (.long 0), none]) (st' := []) rfl rfl rfl rfl ?_
          refine ax_s (pc' := 112) (ls' := [some (.ref 281), some (.int (nI t)), some (.int (nI p)), some (.int (nI T)), some (.long ((lN c) + 0)), none, some (.long (lN a)), none, some (.int ((nI s) + 1)), some (.long 0), none]) (st' := []) rfl rfl rfl rfl ?_
          rw [nI_1]
          refine ax_s (pc' := 44) (st' := []) rfl rfl rfl rfl ?_
          exact k5 c1 c5 c6 c7
    · refine ax_s (pc' := 62) (st' := [.int (nI s)]) rfl rfl rfl rfl ?_
      refine ax_s (pc' := 63) (st' := [.int (nI T), .int (nI s)]) rfl rfl rfl rfl ?_
      refine ax_s (pc' := 64) (st' := [.int (nI p), .int (nI T), .int (nI s)]) rfl rfl rfl rfl ?_
      refine ax_call (vs := [.int (nI s), .int (nI T), .int (nI p)]) (rr := []) rfl rfl rfl ?_
      refine kt_casesOf rfl rfl rfl (x5 c1 c5) hT64 hp10 ?_
      show am_ex (d + 6) 120 67 [some (.ref 281), some (.int (nI t)), some (.int (nI p)), some (.int (nI T)), some (.long (lN c)), none, some (.long (lN a)), none, some (.int (nI s)), y9, none] [.long (lN (pc p T s 6 0 1))] (am_hh X (am_ovl S 29 W) L) _
      refine ax_s (pc' := 71) (st' := [.long (lN (pc p T s 6 0 1))]) rfl rfl rfl rfl ?_
      refine ax_s (pc' := 73) (ls' := [some (.ref 281), some (.int (nI t)), some (.int (nI p)), some (.int (nI T)), some (.long (lN c)), none, some (.long (lN a)), none, some (.int (nI s)), some (.long (lN (pc p T s 6 0 1))), none]) (st' := []) rfl rfl rfl rfl ?_
      refine ax_s (pc' := 75) (st' := [.long (lN (pc p T s 6 0 1))]) rfl rfl rfl rfl ?_
      refine ax_s (pc' := 76) (st' := [.long 0, .long (lN (pc p T s 6 0 1))]) rfl rfl rfl rfl ?_
      refine ax_s (pc' := 77) (st' := [.int (lg_cmp (lN (pc p T s 6 0 1)) 0)]) rfl rfl rfl rfl ?_
      refine ax_if_le rfl (fun c8 => ?_) (fun c8 => ?_)
      · refine ax_s (pc' := 112) (ls' := [some (.ref 281), some (.int (nI t)), some (.int (nI p)), some (.int (nI T)), some (.long (lN c)), none, some (.long (lN a)), none, some (.int ((nI s) + 1)), some (.long (lN (pc p T s 6 0 1))), none]) (st' := []) rfl rfl rfl rfl ?_
        rw [nI_1]
        refine ax_s (pc' := 44) (st' := []) rfl rfl rfl rfl ?_
        exact k6 c1 c5 c8
      · refine ax_s (pc' := 81) (st' := [.ref 281]) rfl rfl rfl rfl ?_
        refine ax_s (pc' := 83) (st' := [.int (nI s), .ref 281]) rfl rfl rfl rfl ?_
        refine ax_call (vs := [.ref 281, .int (nI s)]) (rr := []) rfl rfl rfl ?_
        refine kt_without hf hc1 hc0 ?_
        show am_ex (d + 6) 120 86 [some (.ref 281), some (.int (nI t)), some (.int (nI p)), some (.int (nI T)), some (.long (lN c)), none, some (.long (lN a)), none, some (.int (nI s)), some (.long (lN (pc p T s 6 0 1))), none] [] (am_hh X (am_ovl S 29 (gn s n 0 (am_sub S 20))) L) _
        refine ax_s (pc' := 88) (st' := [.long (lN c)]) rfl rfl rfl rfl ?_
        refine ax_s (pc' := 89) (st' := [.ref 281, .long (lN c)]) rfl rfl rfl rfl ?_
        refine ax_get rfl (hh_281 _ _ _) rfl rfl rfl ?_
        show am_ex (d + 6) 120 92 [some (.ref 281), some (.int (nI t)), some (.int (nI p)), some (.int (nI T)), some (.long (lN c)), none, some (.long (lN a)), none, some (.int (nI s)), some (.long (lN (pc p T s 6 0 1))), none] [.ref 29, .long (lN c)] (am_hh X (am_ovl S 29 (gn s n 0 (am_sub S 20))) L) _
        refine ax_s (pc' := 93) (st' := [.int (nI t), .ref 29, .long (lN c)]) rfl rfl rfl rfl ?_
        refine ax_s (pc' := 94) (st' := [.int 1, .int (nI t), .ref 29, .long (lN c)]) rfl rfl rfl rfl ?_
        refine ax_call (vs := [.ref 29, .int (nI t), .int 1]) (rr := [.long (lN c)]) rfl rfl rfl ?_
        refine kw (am_hh_ov isW29 X S L (gn s n 0 (am_sub S 20))).symm (am_hh_ov isW29 X S L _) (fun _ => ct_sticksIn (rk := rk0) (am_isW_k isW29 X S L) (show wF (gn s n 0 (am_sub S 20)) g n from (wF_gn s n 0 _ hf)).1 (show wF (gn s n 0 (am_sub S 20)) g n from (wF_gn s n 0 _ hf)).2.1 (show wF (gn s n 0 (am_sub S 20)) g n from (wF_gn s n 0 _ hf)).2.2.1 (show wF (gn s n 0 (am_sub S 20)) g n from (wF_gn s n 0 _ hf)).2.2.2 (hh_s1 _ _ _) (x6 c1 c5 c8)) ?_
        show am_ex (d + 6) 120 97 [some (.ref 281), some (.int (nI t)), some (.int (nI p)), some (.int (nI T)), some (.long (lN c)), none, some (.long (lN a)), none, some (.int (nI s)), some (.long (lN (pc p T s 6 0 1))), none] [.int (w_sk rk0 g n 1 t 0 (gn s n 0 (am_sub S 20))).1, .long (lN c)] (am_hh X (am_ovl S 29 (w_sk rk0 g n 1 t 0 (gn s n 0 (am_sub S 20))).2) L) _
        refine ax_if_ne rfl (fun c9 => ?_) (fun c9 => ?_)
        · refine ax_s (pc' := 106) (st' := [.long 0, .long (lN c)]) rfl rfl rfl rfl ?_
          refine ax_s (pc' := 107) (st' := [.long ((lN c) + 0)]) rfl rfl rfl rfl ?_
          refine ax_s (pc' := 109) (ls' := [some (.ref 281), some (.int (nI t)), some (.int (nI p)), some (.int (nI T)), some (.long ((lN c) + 0)), none, some (.long (lN a)), none, some (.int (nI s)), some (.long (lN (pc p T s 6 0 1))), none]) (st' := []) rfl rfl rfl rfl ?_
          refine ax_s (pc' := 112) (ls' := [some (.ref 281), some (.int (nI t)), some (.int (nI p)), some (.int (nI T)), some (.long ((lN c) + 0)), none, some (.long (lN a)), none, some (.int ((nI s) + 1)), some (.long (lN (pc p T s 6 0 1))), none]) (st' := []) rfl rfl rfl rfl ?_
          rw [nI_1]
          refine ax_s (pc' := 44) (st' := []) rfl rfl rfl rfl ?_
          exact k7 c1 c5 c8 c9
        · refine ax_s (pc' := 102) (st' := [.long (lN (pc p T s 6 0 1)), .long (lN c)]) rfl rfl rfl rfl ?_
          refine ax_s (pc' := 106) (st' := [.long (lN (pc p T s 6 0 1)), .long (lN c)]) rfl rfl rfl rfl ?_
          refine ax_s (pc' := 107) (st' := [.long ((lN c) + (lN (pc p T s 6 0 1)))]) rfl rfl rfl rfl ?_
          refine ax_s (pc' := 109) (ls' := [some (.ref 281), some (.int (nI t)), some (.int (nI p)), some (.int (nI T)), some (.long ((lN c) + (lN (pc p T s 6 0 1)))), none, some (.long (lN a)), none, some (.int (nI s)), some (.long (lN (pc p T s 6 0 1))), none]) (st' := []) rfl rfl rfl rfl ?_
          refine ax_s (pc' := 112) (ls' := [some (.ref 281), some (.int (nI t)), some (.int (nI p)), some (.int (nI T)), some (.long ((lN c) + (lN (pc p T s 6 0 1)))), none, some (.long (lN a)), none, some (.int ((nI s) + 1)), some (.long (lN (pc p T s 6 0 1))), none]) (st' := []) rfl rfl rfl rfl ?_
          rw [nI_1]
          refine ax_s (pc' := 44) (st' := []) rfl rfl rfl rfl ?_
          exact k8 c1 c5 c8 c9
def g_k_away (S : Nat → Nat → Int32) (p q r : Int32) : Prop := ¬ (S 20 4) ≤ 0 ∧ (¬ (p < 0 ∨ 40 < p)) ∧ (¬ (q < 0 ∨ 10 < q)) ∧ (¬ (r < 0 ∨ 1 < r))
def eg_k_away (S : Nat → Nat → Int32) (p q r : Int32) : Int64 := (if (S 20 4) ≤ 0 then (-1000002) else (if p < 0 ∨ 40 < p then (-1000001) else (if q < 0 ∨ 10 < q then (-1000001) else (if r < 0 ∨ 1 < r then (-1000001) else 0))))
theorem wg_k_away {d : Nat} {X : Nat × (Nat → Int32)} {S : Nat → Nat → Int32} {L : Nat → Int64} {p q r : Int32} {Q : Option Value → am_H → Prop}   (hb : ¬ g_k_away S p q r) (hQ : Q (some (.long (eg_k_away S p q r))) (am_hh X S L)) : am_mt (d + 8) 119 [.ref 5, .int p, .int q, .int r] (am_hh X S L) Q := by
  refine ax_in (ls := [some (.ref 5), some (.int p), some (.int q), some (.int r)]) rfl ?_
  refine ax_s (pc' := 1) (st' := [.ref 5]) rfl rfl rfl rfl ?_
  refine ax_get rfl (hh_5 _ _ _) rfl rfl rfl ?_
  show am_ex (d + 8) 119 4 [some (.ref 5), some (.int p), some (.int q), some (.int r)] [.ref 20] (am_hh X S L) _
  refine ax_call (vs := [.ref 20]) (rr := []) rfl rfl rfl ?_
  refine kw (am_hh_sub isW20 X S L) (am_hh_sub isW20 X S L).symm (fun _ => ct_stands (am_isW_k isW20 X S L)) ?_
  show am_ex (d + 8) 119 7 [some (.ref 5), some (.int p), some (.int q), some (.int r)] [.int (bI (decide (¬ (S 20 4) ≤ 0)))] (am_hh X S L) _
  refine ax_qT rfl (fun c1 => ?_) (fun c1 => ?_)
  · refine ax_s (pc' := 15) (st' := [.int p]) rfl rfl rfl rfl ?_
    refine ax_s (pc' := 16) (st' := [.int 0, .int p]) rfl rfl rfl rfl ?_
    refine ax_s (pc' := 18) (st' := [.int 40, .int 0, .int p]) rfl rfl rfl rfl ?_
    refine ax_call (vs := [.int p, .int 0, .int 40]) (rr := []) rfl rfl rfl ?_
    refine ct_isOutside ?_
    show am_ex (d + 8) 119 21 [some (.ref 5), some (.int p), some (.int q), some (.int r)] [.int (bI (decide (p < 0 ∨ 40 < p)))] (am_hh X S L) _
    refine ax_pT rfl (fun c2 => ?_) (fun c2 => ?_)
    · refine ax_s (pc' := 46) (st' := [.long (-1000001)]) rfl rfl rfl rfl ?_
      refine ax_r rfl rfl rfl ?_
      unfold eg_k_away at hQ
      rw [if_neg c1, if_pos c2] at hQ
      exact hQ
    · refine ax_s (pc' := 25) (st' := [.int q]) rfl rfl rfl rfl ?_
      refine ax_s (pc' := 26) (st' := [.int 0, .int q]) rfl rfl rfl rfl ?_
      refine ax_s (pc' := 28) (st' := [.int 10, .int 0, .int q]) rfl rfl rfl rfl ?_
      refine ax_call (vs := [.int q, .int 0, .int 10]) (rr := []) rfl rfl rfl ?_
      refine ct_isOutside ?_
      show am_ex (d + 8) 119 31 [some (.ref 5), some (.int p), some (.int q), some (.int r)] [.int (bI (decide (q < 0 ∨ 10 < q)))] (am_hh X S L) _
      refine ax_pT rfl (fun c3 => ?_) (fun c3 => ?_)
      · refine ax_s (pc' := 46) (st' := [.long (-1000001)]) rfl rfl rfl rfl ?_
        refine ax_r rfl rfl rfl ?_
        unfold eg_k_away at hQ
        rw [if_neg c1, if_neg c2, if_pos c3] at hQ
        exact hQ
      · refine ax_s (pc' := 35) (st' := [.int r]) rfl rfl rfl rfl ?_
        refine ax_s (pc' := 36) (st' := [.int 0, .int r]) rfl rfl rfl rfl ?_
        refine ax_s (pc' := 37) (st' := [.int 1, .int 0, .int r]) rfl rfl rfl rfl ?_
        refine ax_call (vs := [.int r, .int 0, .int 1]) (rr := []) rfl rfl rfl ?_
        refine ct_isOutside ?_
        show am_ex (d + 8) 119 40 [some (.ref 5), some (.int p), some (.int q), some (.int r)] [.int (bI (decide (r < 0 ∨ 1 < r)))] (am_hh X S L) _
        refine ax_pF rfl (fun c4 => ?_) (fun c4 => ?_)
        · exact absurd ⟨c1, c2, c3, c4⟩ hb
        · refine ax_s (pc' := 46) (st' := [.long (-1000001)]) rfl rfl rfl rfl ?_
          refine ax_r rfl rfl rfl ?_
          unfold eg_k_away at hQ
          rw [if_neg c1, if_neg c2, if_neg c3, if_pos c4] at hQ
          exact hQ
  · refine ax_s (pc' := 13) (st' := [.long (-1000002)]) rfl rfl rfl rfl ?_
    refine ax_r rfl rfl rfl ?_
    unfold eg_k_away at hQ
    rw [if_pos c1] at hQ
    exact hQ
def g_m_away (S : Nat → Nat → Int32) (p q r : Int32) : Prop := ¬ ((S 285 8) = 0) ∧ (¬ p < 0 ∧ ¬ 40 < p) ∧ (¬ q < 0 ∧ ¬ 10 < q) ∧ (¬ r < 0 ∧ ¬ 1 < r)
def eg_m_away (S : Nat → Nat → Int32) (p q r : Int32) : Int64 := (if (S 285 8) = 0 then (-1000002) else (if ¬ p < 0 ∧ ¬ 40 < p then (if ¬ q < 0 ∧ ¬ 10 < q then (if ¬ r < 0 ∧ ¬ 1 < r then 0 else (-1000001)) else (-1000001)) else (-1000001)))
theorem wg_m_away {d : Nat} {X : Nat × (Nat → Int32)} {S : Nat → Nat → Int32} {L : Nat → Int64} {p q r : Int32} {Q : Option Value → am_H → Prop}   (hb : ¬ g_m_away S p q r) (hQ : Q (some (.long (eg_m_away S p q r))) (am_hh X S L)) : am_mt (d + 8) 216 [.ref 285, .int p, .int q, .int r] (am_hh X S L) Q := by
  refine ax_in (ls := [some (.ref 285), some (.int p), some (.int q), some (.int r), none, none, none, none, none, none, none, none, none, none]) rfl ?_
  refine ax_s (pc' := 1) (st' := [.ref 285]) rfl rfl rfl rfl ?_
  refine ax_call (vs := [.ref 285]) (rr := []) rfl rfl rfl ?_
  refine mt_isNone  ?_
  show am_ex (d + 8) 216 4 [some (.ref 285), some (.int p), some (.int q), some (.int r), none, none, none, none, none, none, none, none, none, none] [.int (bI (decide ((S 285 8) = 0)))] (am_hh X S L) _
  refine ax_pF rfl (fun c1 => ?_) (fun c1 => ?_)
  · refine ax_s (pc' := 12) (st' := [.int p]) rfl rfl rfl rfl ?_
    refine ax_s (pc' := 13) (st' := [.int 0, .int p]) rfl rfl rfl rfl ?_
    refine ax_s (pc' := 15) (st' := [.int 40, .int 0, .int p]) rfl rfl rfl rfl ?_
    refine ax_call (vs := [.int p, .int 0, .int 40]) (rr := []) rfl rfl rfl ?_
    refine mt_in ?_
    show am_ex (d + 8) 216 18 [some (.ref 285), some (.int p), some (.int q), some (.int r), none, none, none, none, none, none, none, none, none, none] [.int (bI (decide (¬ p < 0 ∧ ¬ 40 < p)))] (am_hh X S L) _
    refine ax_pF rfl (fun c2 => ?_) (fun c2 => ?_)
    · refine ax_s (pc' := 43) (st' := [.long (-1000001)]) rfl rfl rfl rfl ?_
      refine ax_r rfl rfl rfl ?_
      unfold eg_m_away at hQ
      rw [if_neg c1, if_neg c2] at hQ
      exact hQ
    · refine ax_s (pc' := 22) (st' := [.int q]) rfl rfl rfl rfl ?_
      refine ax_s (pc' := 23) (st' := [.int 0, .int q]) rfl rfl rfl rfl ?_
      refine ax_s (pc' := 25) (st' := [.int 10, .int 0, .int q]) rfl rfl rfl rfl ?_
      refine ax_call (vs := [.int q, .int 0, .int 10]) (rr := []) rfl rfl rfl ?_
      refine mt_in ?_
      show am_ex (d + 8) 216 28 [some (.ref 285), some (.int p), some (.int q), some (.int r), none, none, none, none, none, none, none, none, none, none] [.int (bI (decide (¬ q < 0 ∧ ¬ 10 < q)))] (am_hh X S L) _
      refine ax_pF rfl (fun c3 => ?_) (fun c3 => ?_)
      · refine ax_s (pc' := 43) (st' := [.long (-1000001)]) rfl rfl rfl rfl ?_
        refine ax_r rfl rfl rfl ?_
        unfold eg_m_away at hQ
        rw [if_neg c1, if_pos c2, if_neg c3] at hQ
        exact hQ
      · refine ax_s (pc' := 32) (st' := [.int r]) rfl rfl rfl rfl ?_
        refine ax_s (pc' := 33) (st' := [.int 0, .int r]) rfl rfl rfl rfl ?_
        refine ax_s (pc' := 34) (st' := [.int 1, .int 0, .int r]) rfl rfl rfl rfl ?_
        refine ax_call (vs := [.int r, .int 0, .int 1]) (rr := []) rfl rfl rfl ?_
        refine mt_in ?_
        show am_ex (d + 8) 216 37 [some (.ref 285), some (.int p), some (.int q), some (.int r), none, none, none, none, none, none, none, none, none, none] [.int (bI (decide (¬ r < 0 ∧ ¬ 1 < r)))] (am_hh X S L) _
        refine ax_pT rfl (fun c4 => ?_) (fun c4 => ?_)
        · exact absurd ⟨c1, c2, c3, c4⟩ hb
        · refine ax_s (pc' := 43) (st' := [.long (-1000001)]) rfl rfl rfl rfl ?_
          refine ax_r rfl rfl rfl ?_
          unfold eg_m_away at hQ
          rw [if_neg c1, if_pos c2, if_pos c3, if_neg c4] at hQ
          exact hQ
  · refine ax_s (pc' := 10) (st' := [.long (-1000002)]) rfl rfl rfl rfl ?_
    refine ax_r rfl rfl rfl ?_
    unfold eg_m_away at hQ
    rw [if_pos c1] at hQ
    exact hQ
theorem wl_ma1 {d : Nat} {X : Nat × (Nat → Int32)} {S : Nat → Nat → Int32} {L : Nat → Int64} {g n t p T c a s : Nat} {q : Int32} {W : Nat → Nat → Int32} {S1 : Nat → Nat → Int32} {y10 y12 y13 : Option Value} {Q : Option Value → am_H → Prop} (hR : mR W S 293 g n) (hK : JK S) (hf1 : F8 S S1)  (x1 : (1 <<< ((S1 285 7) &&& 31)) ≤ (nI s) → c < 2 ^ 49) (x2 : (1 <<< ((S1 285 7) &&& 31)) ≤ (nI s) → a < 2 ^ 49) (x3 : (1 <<< ((S1 285 7) &&& 31)) ≤ (nI s) → ¬ q = 0 → ¬ (lN (Nat.gcd c a)) = 0) (x4 : (1 <<< ((S1 285 7) &&& 31)) ≤ (nI s) → q = 0 → ¬ (lN (Nat.gcd c a)) = 0) (k1 : (1 <<< ((S1 285 7) &&& 31)) ≤ (nI s) → ¬ q = 0 → Q (some (.long ((lN a) / (lN (Nat.gcd c a))))) (am_hh X S1 L)) (k2 : (1 <<< ((S1 285 7) &&& 31)) ≤ (nI s) → q = 0 → Q (some (.long ((lN c) / (lN (Nat.gcd c a))))) (am_hh X S1 L)) (k3 : ¬ (1 <<< ((S1 285 7) &&& 31)) ≤ (nI s) → ¬ ((nI s) &&& ((nI T) ^^^ (-1))) = 0 → am_ex (d + 8) 216 64 [some (.ref 285), some (.int (nI t)), some (.int (nI p)), some (.int q), some (.int (nI T)), some (.long (lN c)), none, some (.long (lN a)), none, some (.int (nI (s + 1))), y10, none, y12, y13] [] (am_hh X S1 L) Q) (k4 : ¬ (1 <<< ((S1 285 7) &&& 31)) ≤ (nI s) → ((nI s) &&& ((nI T) ^^^ (-1))) = 0 → ∀ S4 : Nat → Nat → Int32, mR W S4 298 g n → F8 S1 S4 → am_ex (d + 8) 216 95 [some (.ref 285), some (.int (nI t)), some (.int (nI p)), some (.int q), some (.int (nI T)), some (.long (lN c)), none, some (.long (lN a)), none, some (.int (nI s)), some (.long 1), none, some (.int 0), y13] [] (am_hh X S4 L) Q) : am_ex (d + 8) 216 64 [some (.ref 285), some (.int (nI t)), some (.int (nI p)), some (.int q), some (.int (nI T)), some (.long (lN c)), none, some (.long (lN a)), none, some (.int (nI s)), y10, none, y12, y13] [] (am_hh X S1 L) Q := by
  refine ax_s (pc' := 66) (st' := [.int (nI s)]) rfl rfl rfl rfl ?_
  refine ax_s (pc' := 67) (st' := [.int 1, .int (nI s)]) rfl rfl rfl rfl ?_
  refine ax_s (pc' := 68) (st' := [.ref 285, .int 1, .int (nI s)]) rfl rfl rfl rfl ?_
  refine ax_get rfl (hh_285 _ _ _) rfl rfl rfl ?_
  show am_ex (d + 8) 216 71 [some (.ref 285), some (.int (nI t)), some (.int (nI p)), some (.int q), some (.int (nI T)), some (.long (lN c)), none, some (.long (lN a)), none, some (.int (nI s)), y10, none, y12, y13] [.int (S1 285 7), .int 1, .int (nI s)] (am_hh X S1 L) _
  refine ax_s (pc' := 72) (st' := [.int (1 <<< ((S1 285 7) &&& 31)), .int (nI s)]) rfl rfl rfl rfl ?_
  refine ax_cmp_ge rfl (fun c1 => ?_) (fun c1 => ?_)
  · refine ax_s (pc' := 225) (st' := [.long (lN c)]) rfl rfl rfl rfl ?_
    refine ax_s (pc' := 227) (st' := [.long (lN a), .long (lN c)]) rfl rfl rfl rfl ?_
    refine ax_call (vs := [.long (lN c), .long (lN a)]) (rr := []) rfl rfl rfl ?_
    refine mt_common (x1 c1) (x2 c1) ?_
    show am_ex (d + 8) 216 230 [some (.ref 285), some (.int (nI t)), some (.int (nI p)), some (.int q), some (.int (nI T)), some (.long (lN c)), none, some (.long (lN a)), none, some (.int (nI s)), y10, none, y12, y13] [.long (lN (Nat.gcd c a))] (am_hh X S1 L) _
    refine ax_s (pc' := 232) (ls' := [some (.ref 285), some (.int (nI t)), some (.int (nI p)), some (.int q), some (.int (nI T)), some (.long (lN c)), none, some (.long (lN a)), none, some (.long (lN (Nat.gcd c a))), none, none, y12, y13]) (st' := []) rfl rfl rfl rfl ?_
    refine ax_s (pc' := 233) (st' := [.int q]) rfl rfl rfl rfl ?_
    refine ax_if_ne rfl (fun c2 => ?_) (fun c2 => ?_)
    · refine ax_s (pc' := 246) (st' := [.long (lN a)]) rfl rfl rfl rfl ?_
      refine ax_s (pc' := 248) (st' := [.long (lN (Nat.gcd c a)), .long (lN a)]) rfl rfl rfl rfl ?_
      refine ax_ldiv rfl (x3 c1 c2) ?_
      refine ax_r rfl rfl rfl ?_
      exact k1 c1 c2
    · refine ax_s (pc' := 238) (st' := [.long (lN c)]) rfl rfl rfl rfl ?_
      refine ax_s (pc' := 240) (st' := [.long (lN (Nat.gcd c a)), .long (lN c)]) rfl rfl rfl rfl ?_
      refine ax_ldiv rfl (x4 c1 c2) ?_
      refine ax_s (pc' := 249) (st' := [.long ((lN c) / (lN (Nat.gcd c a)))]) rfl rfl rfl rfl ?_
      refine ax_r rfl rfl rfl ?_
      exact k2 c1 c2
  · refine ax_s (pc' := 77) (st' := [.int (nI s)]) rfl rfl rfl rfl ?_
    refine ax_s (pc' := 79) (st' := [.int (nI T), .int (nI s)]) rfl rfl rfl rfl ?_
    refine ax_s (pc' := 80) (st' := [.int (-1), .int (nI T), .int (nI s)]) rfl rfl rfl rfl ?_
    refine ax_s (pc' := 81) (st' := [.int ((nI T) ^^^ (-1)), .int (nI s)]) rfl rfl rfl rfl ?_
    refine ax_s (pc' := 82) (st' := [.int ((nI s) &&& ((nI T) ^^^ (-1)))]) rfl rfl rfl rfl ?_
    refine ax_if_ne rfl (fun c3 => ?_) (fun c3 => ?_)
    · refine ax_s (pc' := 220) (ls' := [some (.ref 285), some (.int (nI t)), some (.int (nI p)), some (.int q), some (.int (nI T)), some (.long (lN c)), none, some (.long (lN a)), none, some (.int ((nI s) + 1)), y10, none, y12, y13]) (st' := []) rfl rfl rfl rfl ?_
      rw [nI_1]
      refine ax_s (pc' := 64) (st' := []) rfl rfl rfl rfl ?_
      exact k3 c1 c3
    · refine ax_s (pc' := 86) (st' := [.long 1]) rfl rfl rfl rfl ?_
      refine ax_s (pc' := 88) (ls' := [some (.ref 285), some (.int (nI t)), some (.int (nI p)), some (.int q), some (.int (nI T)), some (.long (lN c)), none, some (.long (lN a)), none, some (.int (nI s)), some (.long 1), none, y12, y13]) (st' := []) rfl rfl rfl rfl ?_
      refine ax_s (pc' := 89) (st' := [.ref 285]) rfl rfl rfl rfl ?_
      refine ax_call (vs := [.ref 285]) (rr := []) rfl rfl rfl ?_
      refine mt_asItIs' (F8_m hf1 hR) (fun S4 hm4 hf4 => ?_)
      show am_ex (d + 8) 216 92 [some (.ref 285), some (.int (nI t)), some (.int (nI p)), some (.int q), some (.int (nI T)), some (.long (lN c)), none, some (.long (lN a)), none, some (.int (nI s)), some (.long 1), none, y12, y13] [] (am_hh X S4 L) _
      refine ax_s (pc' := 93) (st' := [.int 0]) rfl rfl rfl rfl ?_
      refine ax_s (pc' := 95) (ls' := [some (.ref 285), some (.int (nI t)), some (.int (nI p)), some (.int q), some (.int (nI T)), some (.long (lN c)), none, some (.long (lN a)), none, some (.int (nI s)), some (.long 1), none, some (.int 0), y13]) (st' := []) rfl rfl rfl rfl ?_
      exact k4 c1 c3 S4 hm4 hf4
theorem wl_ma2 {d : Nat} {X : Nat × (Nat → Int32)} {S : Nat → Nat → Int32} {L : Nat → Int64} {g n t p T c a s i e : Nat} {q : Int32} {V : Nat → Nat → Int32} {S1 : Nat → Nat → Int32} {y13 : Option Value} {Q : Option Value → am_H → Prop} (hK : JK S) (hf1 : F8 S S1) (hv : mR V S1 298 g n)  (x1 : (S1 285 7) ≤ (nI i) → t < 1000) (x2 : ¬ (S1 285 7) ≤ (nI i) → ¬ (((nI s) >>> ((nI i) &&& 31)) &&& 1) = 1 → ¬ (((nI T) >>> ((nI i) &&& 31)) &&& 1) = 0 → (15 + i) < 39) (x3 : ¬ (S1 285 7) ≤ (nI i) → ¬ (((nI s) >>> ((nI i) &&& 31)) &&& 1) = 1 → (((nI T) >>> ((nI i) &&& 31)) &&& 1) = 0 → (15 + i) < 39) (x4 : ¬ (S1 285 7) ≤ (nI i) → (((nI s) >>> ((nI i) &&& 31)) &&& 1) = 1 → ¬ (((nI T) >>> ((nI i) &&& 31)) &&& 1) = 0 → (15 + i) < 39) (x5 : ¬ (S1 285 7) ≤ (nI i) → (((nI s) >>> ((nI i) &&& 31)) &&& 1) = 1 → (((nI T) >>> ((nI i) &&& 31)) &&& 1) = 0 → (15 + i) < 39) (k1 : (S1 285 7) ≤ (nI i) → ∀ S2 : Nat → Nat → Int32, mR (w_it rk0 g n t V) S2 298 g n → F8 S1 S2 → ¬ (w_sn rk0 g n t V 0) = 0 → am_ex (d + 8) 216 64 [some (.ref 285), some (.int (nI t)), some (.int (nI p)), some (.int q), some (.int (nI T)), some (.long ((lN c) + 0)), none, some (.long ((lN a) + (lN e))), none, some (.int (nI (s + 1))), some (.long (lN e)), none, some (.int (nI i)), y13] [] (am_hh X S2 L) Q) (k2 : (S1 285 7) ≤ (nI i) → ∀ S2 : Nat → Nat → Int32, mR (w_it rk0 g n t V) S2 298 g n → F8 S1 S2 → (w_sn rk0 g n t V 0) = 0 → am_ex (d + 8) 216 64 [some (.ref 285), some (.int (nI t)), some (.int (nI p)), some (.int q), some (.int (nI T)), some (.long ((lN c) + (lN e))), none, some (.long ((lN a) + (lN e))), none, some (.int (nI (s + 1))), some (.long (lN e)), none, some (.int (nI i)), y13] [] (am_hh X S2 L) Q) (k3 : ¬ (S1 285 7) ≤ (nI i) → ¬ (((nI s) >>> ((nI i) &&& 31)) &&& 1) = 1 → ¬ (((nI T) >>> ((nI i) &&& 31)) &&& 1) = 0 → am_ex (d + 8) 216 95 [some (.ref 285), some (.int (nI t)), some (.int (nI p)), some (.int q), some (.int (nI T)), some (.long (lN c)), none, some (.long (lN a)), none, some (.int (nI s)), some (.long ((lN e) * (10 - (nI p)).toInt64)), none, some (.int (nI (i + 1))), some (.int 0)] [] (am_hh X (am_u S1 298 (15 + i) (S1 298 (15 + i))) L) Q) (k4 : ¬ (S1 285 7) ≤ (nI i) → ¬ (((nI s) >>> ((nI i) &&& 31)) &&& 1) = 1 → (((nI T) >>> ((nI i) &&& 31)) &&& 1) = 0 → am_ex (d + 8) 216 95 [some (.ref 285), some (.int (nI t)), some (.int (nI p)), some (.int q), some (.int (nI T)), some (.long (lN c)), none, some (.long (lN a)), none, some (.int (nI s)), some (.long ((lN e) * 1)), none, some (.int (nI (i + 1))), some (.int 0)] [] (am_hh X (am_u S1 298 (15 + i) (S1 298 (15 + i))) L) Q) (k5 : ¬ (S1 285 7) ≤ (nI i) → (((nI s) >>> ((nI i) &&& 31)) &&& 1) = 1 → ¬ (((nI T) >>> ((nI i) &&& 31)) &&& 1) = 0 → am_ex (d + 8) 216 95 [some (.ref 285), some (.int (nI t)), some (.int (nI p)), some (.int q), some (.int (nI T)), some (.long (lN c)), none, some (.long (lN a)), none, some (.int (nI s)), some (.long ((lN e) * (nI p).toInt64)), none, some (.int (nI (i + 1))), some (.int 1)] [] (am_hh X (am_u S1 298 (15 + i) 3) L) Q) (k6 : ¬ (S1 285 7) ≤ (nI i) → (((nI s) >>> ((nI i) &&& 31)) &&& 1) = 1 → (((nI T) >>> ((nI i) &&& 31)) &&& 1) = 0 → am_ex (d + 8) 216 95 [some (.ref 285), some (.int (nI t)), some (.int (nI p)), some (.int q), some (.int (nI T)), some (.long (lN c)), none, some (.long (lN a)), none, some (.int (nI s)), some (.long ((lN e) * 1)), none, some (.int (nI (i + 1))), some (.int 1)] [] (am_hh X (am_u S1 298 (15 + i) 3) L) Q) : am_ex (d + 8) 216 95 [some (.ref 285), some (.int (nI t)), some (.int (nI p)), some (.int q), some (.int (nI T)), some (.long (lN c)), none, some (.long (lN a)), none, some (.int (nI s)), some (.long (lN e)), none, some (.int (nI i)), y13] [] (am_hh X S1 L) Q := by
  refine ax_s (pc' := 97) (st' := [.int (nI i)]) rfl rfl rfl rfl ?_
  refine ax_s (pc' := 98) (st' := [.ref 285, .int (nI i)]) rfl rfl rfl rfl ?_
  refine ax_get rfl (hh_285 _ _ _) rfl rfl rfl ?_
  show am_ex (d + 8) 216 101 [some (.ref 285), some (.int (nI t)), some (.int (nI p)), some (.int q), some (.int (nI T)), some (.long (lN c)), none, some (.long (lN a)), none, some (.int (nI s)), some (.long (lN e)), none, some (.int (nI i)), y13] [.int (S1 285 7), .int (nI i)] (am_hh X S1 L) _
  refine ax_cmp_ge rfl (fun c1 => ?_) (fun c1 => ?_)
  · refine ax_s (pc' := 193) (st' := [.long (lN c)]) rfl rfl rfl rfl ?_
    refine ax_s (pc' := 194) (st' := [.ref 285, .long (lN c)]) rfl rfl rfl rfl ?_
    refine ax_s (pc' := 195) (st' := [.int (nI t), .ref 285, .long (lN c)]) rfl rfl rfl rfl ?_
    refine ax_call (vs := [.ref 285, .int (nI t)]) (rr := [.long (lN c)]) rfl rfl rfl ?_
    refine mt_goes (K := t) rfl (Nat.lt_trans (x1 c1) (by decide)) (F8_K hf1 hK) hv (fun S2 hm2 hf2 => ?_)
    show am_ex (d + 8) 216 198 [some (.ref 285), some (.int (nI t)), some (.int (nI p)), some (.int q), some (.int (nI T)), some (.long (lN c)), none, some (.long (lN a)), none, some (.int (nI s)), some (.long (lN e)), none, some (.int (nI i)), y13] [.int (w_sn rk0 g n t V 0), .long (lN c)] (am_hh X S2 L) _
    refine ax_if_ne rfl (fun c3 => ?_) (fun c3 => ?_)
    · refine ax_s (pc' := 207) (st' := [.long 0, .long (lN c)]) rfl rfl rfl rfl ?_
      refine ax_s (pc' := 208) (st' := [.long ((lN c) + 0)]) rfl rfl rfl rfl ?_
      refine ax_s (pc' := 210) (ls' := [some (.ref 285), some (.int (nI t)), some (.int (nI p)), some (.int q), some (.int (nI T)), some (.long ((lN c) + 0)), none, some (.long (lN a)), none, some (.int (nI s)), some (.long (lN e)), none, some (.int (nI i)), y13]) (st' := []) rfl rfl rfl rfl ?_
      refine ax_s (pc' := 212) (st' := [.long (lN a)]) rfl rfl rfl rfl ?_
      refine ax_s (pc' := 214) (st' := [.long (lN e), .long (lN a)]) rfl rfl rfl rfl ?_
      refine ax_s (pc' := 215) (st' := [.long ((lN a) + (lN e))]) rfl rfl rfl rfl ?_
      refine ax_s (pc' := 217) (ls' := [some (.ref 285), some (.int (nI t)), some (.int (nI p)), some (.int q), some (.int (nI T)), some (.long ((lN c) + 0)), none, some (.long ((lN a) + (lN e))), none, some (.int (nI s)), some (.long (lN e)), none, some (.int (nI i)), y13]) (st' := []) rfl rfl rfl rfl ?_
      refine ax_s (pc' := 220) (ls' := [some (.ref 285), some (.int (nI t)), some (.int (nI p)), some (.int q), some (.int (nI T)), some (.long ((lN c) + 0)), none, some (.long ((lN a) + (lN e))), none, some (.int ((nI s) + 1)), some (.long (lN e)), none, some (.int (nI i)), y13]) (st' := []) rfl rfl rfl rfl ?_
      rw [nI_1]
      refine ax_s (pc' := 64) (st' := []) rfl rfl rfl rfl ?_
      exact k1 c1 S2 hm2 hf2 c3
    · refine ax_s (pc' := 203) (st' := [.long (lN e), .long (lN c)]) rfl rfl rfl rfl ?_
      refine ax_s (pc' := 207) (st' := [.long (lN e), .long (lN c)]) rfl rfl rfl rfl ?_
      refine ax_s (pc' := 208) (st' := [.long ((lN c) + (lN e))]) rfl rfl rfl rfl ?_
      refine ax_s (pc' := 210) (ls' := [some (.ref 285), some (.int (nI t)), some (.int (nI p)), some (.int q), some (.int (nI T)), some (.long ((lN c) + (lN e))), none, some (.long (lN a)), none, some (.int (nI s)), some (.long (lN e)), none, some (.int (nI i)), y13]) (st' := []) rfl rfl rfl rfl ?_
      refine ax_s (pc' := 212) (st' := [.long (lN a)]) rfl rfl rfl rfl ?_
      refine ax_s (pc' := 214) (st' := [.long (lN e), .long (lN a)]) rfl rfl rfl rfl ?_
      refine ax_s (pc' := 215) (st' := [.long ((lN a) + (lN e))]) rfl rfl rfl rfl ?_
      refine ax_s (pc' := 217) (ls' := [some (.ref 285), some (.int (nI t)), some (.int (nI p)), some (.int q), some (.int (nI T)), some (.long ((lN c) + (lN e))), none, some (.long ((lN a) + (lN e))), none, some (.int (nI s)), some (.long (lN e)), none, some (.int (nI i)), y13]) (st' := []) rfl rfl rfl rfl ?_
      refine ax_s (pc' := 220) (ls' := [some (.ref 285), some (.int (nI t)), some (.int (nI p)), some (.int q), some (.int (nI T)), some (.long ((lN c) + (lN e))), none, some (.long ((lN a) + (lN e))), none, some (.int ((nI s) + 1)), some (.long (lN e)), none, some (.int (nI i)), y13]) (st' := []) rfl rfl rfl rfl ?_
      rw [nI_1]
      refine ax_s (pc' := 64) (st' := []) rfl rfl rfl rfl ?_
      exact k2 c1 S2 hm2 hf2 c3
  · refine ax_s (pc' := 106) (st' := [.int (nI s)]) rfl rfl rfl rfl ?_
    refine ax_s (pc' := 108) (st' := [.int (nI i), .int (nI s)]) rfl rfl rfl rfl ?_
    refine ax_s (pc' := 109) (st' := [.int ((nI s) >>> ((nI i) &&& 31))]) rfl rfl rfl rfl ?_
    refine ax_s (pc' := 110) (st' := [.int 1, .int ((nI s) >>> ((nI i) &&& 31))]) rfl rfl rfl rfl ?_
    refine ax_s (pc' := 111) (st' := [.int (((nI s) >>> ((nI i) &&& 31)) &&& 1)]) rfl rfl rfl rfl ?_
    refine ax_s (pc' := 112) (st' := [.int 1, .int (((nI s) >>> ((nI i) &&& 31)) &&& 1)]) rfl rfl rfl rfl ?_
    refine ax_cmp_ne rfl (fun c4 => ?_) (fun c4 => ?_)
    · refine ax_s (pc' := 120) (st' := [.int 0]) rfl rfl rfl rfl ?_
      refine ax_s (pc' := 122) (ls' := [some (.ref 285), some (.int (nI t)), some (.int (nI p)), some (.int q), some (.int (nI T)), some (.long (lN c)), none, some (.long (lN a)), none, some (.int (nI s)), some (.long (lN e)), none, some (.int (nI i)), some (.int 0)]) (st' := []) rfl rfl rfl rfl ?_
      refine ax_s (pc' := 124) (st' := [.long (lN e)]) rfl rfl rfl rfl ?_
      refine ax_s (pc' := 126) (st' := [.int (nI T), .long (lN e)]) rfl rfl rfl rfl ?_
      refine ax_s (pc' := 128) (st' := [.int (nI i), .int (nI T), .long (lN e)]) rfl rfl rfl rfl ?_
      refine ax_s (pc' := 129) (st' := [.int ((nI T) >>> ((nI i) &&& 31)), .long (lN e)]) rfl rfl rfl rfl ?_
      refine ax_s (pc' := 130) (st' := [.int 1, .int ((nI T) >>> ((nI i) &&& 31)), .long (lN e)]) rfl rfl rfl rfl ?_
      refine ax_s (pc' := 131) (st' := [.int (((nI T) >>> ((nI i) &&& 31)) &&& 1), .long (lN e)]) rfl rfl rfl rfl ?_
      refine ax_if_ne rfl (fun c5 => ?_) (fun c5 => ?_)
      · refine ax_s (pc' := 140) (st' := [.int 0, .long (lN e)]) rfl rfl rfl rfl ?_
        refine ax_if_eq rfl (fun c6 => ?_) (fun c6 => False.elim (by revert c6; decide))
        refine ax_s (pc' := 150) (st' := [.int 10, .long (lN e)]) rfl rfl rfl rfl ?_
        refine ax_s (pc' := 151) (st' := [.int (nI p), .int 10, .long (lN e)]) rfl rfl rfl rfl ?_
        refine ax_s (pc' := 152) (st' := [.int (10 - (nI p)), .long (lN e)]) rfl rfl rfl rfl ?_
        refine ax_s (pc' := 153) (st' := [.long (10 - (nI p)).toInt64, .long (lN e)]) rfl rfl rfl rfl ?_
        refine ax_s (pc' := 154) (st' := [.long ((lN e) * (10 - (nI p)).toInt64)]) rfl rfl rfl rfl ?_
        refine ax_s (pc' := 156) (ls' := [some (.ref 285), some (.int (nI t)), some (.int (nI p)), some (.int q), some (.int (nI T)), some (.long (lN c)), none, some (.long (lN a)), none, some (.int (nI s)), some (.long ((lN e) * (10 - (nI p)).toInt64)), none, some (.int (nI i)), some (.int 0)]) (st' := []) rfl rfl rfl rfl ?_
        refine ax_s (pc' := 157) (st' := [.ref 285]) rfl rfl rfl rfl ?_
        refine ax_get rfl (hh_285 _ _ _) rfl rfl rfl ?_
        show am_ex (d + 8) 216 160 [some (.ref 285), some (.int (nI t)), some (.int (nI p)), some (.int q), some (.int (nI T)), some (.long (lN c)), none, some (.long (lN a)), none, some (.int (nI s)), some (.long ((lN e) * (10 - (nI p)).toInt64)), none, some (.int (nI i)), some (.int 0)] [.ref 298] (am_hh X S1 L) _
        refine ax_s (pc' := 162) (st' := [.int 15, .ref 298]) rfl rfl rfl rfl ?_
        refine ax_s (pc' := 164) (st' := [.int (nI i), .int 15, .ref 298]) rfl rfl rfl rfl ?_
        refine ax_s (pc' := 165) (st' := [.int (15 + (nI i)), .ref 298]) rfl rfl rfl rfl ?_
        refine ax_s (pc' := 167) (st' := [.int 0, .int (15 + (nI i)), .ref 298]) rfl rfl rfl rfl ?_
        refine ax_if_eq rfl (fun c7 => ?_) (fun c7 => False.elim (by revert c7; decide))
        refine ax_s (pc' := 175) (st' := [.ref 285, .int (15 + (nI i)), .ref 298]) rfl rfl rfl rfl ?_
        refine ax_get rfl (hh_285 _ _ _) rfl rfl rfl ?_
        show am_ex (d + 8) 216 178 [some (.ref 285), some (.int (nI t)), some (.int (nI p)), some (.int q), some (.int (nI T)), some (.long (lN c)), none, some (.long (lN a)), none, some (.int (nI s)), some (.long ((lN e) * (10 - (nI p)).toInt64)), none, some (.int (nI i)), some (.int 0)] [.ref 298, .int (15 + (nI i)), .ref 298] (am_hh X S1 L) _
        refine ax_s (pc' := 180) (st' := [.int 15, .ref 298, .int (15 + (nI i)), .ref 298]) rfl rfl rfl rfl ?_
        refine ax_s (pc' := 182) (st' := [.int (nI i), .int 15, .ref 298, .int (15 + (nI i)), .ref 298]) rfl rfl rfl rfl ?_
        refine ax_s (pc' := 183) (st' := [.int (15 + (nI i)), .ref 298, .int (15 + (nI i)), .ref 298]) rfl rfl rfl rfl ?_
        refine ax_ald (j := (15 + i)) (v := (S1 298 (15 + i))) rfl (hh_298 _ _ _) rfl (am_na (x := 15) (y := i) rfl rfl) (x2 c1 c4 c5) (by decide) rfl ?_
        refine ax_ast (j := (15 + i)) rfl (hh_298 _ _ _) rfl (am_na (x := 15) (y := i) rfl rfl) (x2 c1 c4 c5) (by decide) (am_hh_set _ _ _ 298 (15 + i) _ rfl) ?_
        refine ax_s (pc' := 188) (ls' := [some (.ref 285), some (.int (nI t)), some (.int (nI p)), some (.int q), some (.int (nI T)), some (.long (lN c)), none, some (.long (lN a)), none, some (.int (nI s)), some (.long ((lN e) * (10 - (nI p)).toInt64)), none, some (.int ((nI i) + 1)), some (.int 0)]) (st' := []) rfl rfl rfl rfl ?_
        rw [nI_1]
        refine ax_s (pc' := 95) (st' := []) rfl rfl rfl rfl ?_
        exact k3 c1 c4 c5
      · refine ax_s (pc' := 135) (st' := [.long 1, .long (lN e)]) rfl rfl rfl rfl ?_
        refine ax_s (pc' := 153) (st' := [.long 1, .long (lN e)]) rfl rfl rfl rfl ?_
        refine ax_s (pc' := 154) (st' := [.long ((lN e) * 1)]) rfl rfl rfl rfl ?_
        refine ax_s (pc' := 156) (ls' := [some (.ref 285), some (.int (nI t)), some (.int (nI p)), some (.int q), some (.int (nI T)), some (.long (lN c)), none, some (.long (lN a)), none, some (.int (nI s)), some (.long ((lN e) * 1)), none, some (.int (nI i)), some (.int 0)]) (st' := []) rfl rfl rfl rfl ?_
        refine ax_s (pc' := 157) (st' := [.ref 285]) rfl rfl rfl rfl ?_
        refine ax_get rfl (hh_285 _ _ _) rfl rfl rfl ?_
        show am_ex (d + 8) 216 160 [some (.ref 285), some (.int (nI t)), some (.int (nI p)), some (.int q), some (.int (nI T)), some (.long (lN c)), none, some (.long (lN a)), none, some (.int (nI s)), some (.long ((lN e) * 1)), none, some (.int (nI i)), some (.int 0)] [.ref 298] (am_hh X S1 L) _
        refine ax_s (pc' := 162) (st' := [.int 15, .ref 298]) rfl rfl rfl rfl ?_
        refine ax_s (pc' := 164) (st' := [.int (nI i), .int 15, .ref 298]) rfl rfl rfl rfl ?_
        refine ax_s (pc' := 165) (st' := [.int (15 + (nI i)), .ref 298]) rfl rfl rfl rfl ?_
        refine ax_s (pc' := 167) (st' := [.int 0, .int (15 + (nI i)), .ref 298]) rfl rfl rfl rfl ?_
        refine ax_if_eq rfl (fun c8 => ?_) (fun c8 => False.elim (by revert c8; decide))
        refine ax_s (pc' := 175) (st' := [.ref 285, .int (15 + (nI i)), .ref 298]) rfl rfl rfl rfl ?_
        refine ax_get rfl (hh_285 _ _ _) rfl rfl rfl ?_
        show am_ex (d + 8) 216 178 [some (.ref 285), some (.int (nI t)), some (.int (nI p)), some (.int q), some (.int (nI T)), some (.long (lN c)), none, some (.long (lN a)), none, some (.int (nI s)), some (.long ((lN e) * 1)), none, some (.int (nI i)), some (.int 0)] [.ref 298, .int (15 + (nI i)), .ref 298] (am_hh X S1 L) _
        refine ax_s (pc' := 180) (st' := [.int 15, .ref 298, .int (15 + (nI i)), .ref 298]) rfl rfl rfl rfl ?_
        refine ax_s (pc' := 182) (st' := [.int (nI i), .int 15, .ref 298, .int (15 + (nI i)), .ref 298]) rfl rfl rfl rfl ?_
        refine ax_s (pc' := 183) (st' := [.int (15 + (nI i)), .ref 298, .int (15 + (nI i)), .ref 298]) rfl rfl rfl rfl ?_
        refine ax_ald (j := (15 + i)) (v := (S1 298 (15 + i))) rfl (hh_298 _ _ _) rfl (am_na (x := 15) (y := i) rfl rfl) (x3 c1 c4 c5) (by decide) rfl ?_
        refine ax_ast (j := (15 + i)) rfl (hh_298 _ _ _) rfl (am_na (x := 15) (y := i) rfl rfl) (x3 c1 c4 c5) (by decide) (am_hh_set _ _ _ 298 (15 + i) _ rfl) ?_
        refine ax_s (pc' := 188) (ls' := [some (.ref 285), some (.int (nI t)), some (.int (nI p)), some (.int q), some (.int (nI T)), some (.long (lN c)), none, some (.long (lN a)), none, some (.int (nI s)), some (.long ((lN e) * 1)), none, some (.int ((nI i) + 1)), some (.int 0)]) (st' := []) rfl rfl rfl rfl ?_
        rw [nI_1]
        refine ax_s (pc' := 95) (st' := []) rfl rfl rfl rfl ?_
        exact k4 c1 c4 c5
    · refine ax_s (pc' := 116) (st' := [.int 1]) rfl rfl rfl rfl ?_
      refine ax_s (pc' := 120) (st' := [.int 1]) rfl rfl rfl rfl ?_
      refine ax_s (pc' := 122) (ls' := [some (.ref 285), some (.int (nI t)), some (.int (nI p)), some (.int q), some (.int (nI T)), some (.long (lN c)), none, some (.long (lN a)), none, some (.int (nI s)), some (.long (lN e)), none, some (.int (nI i)), some (.int 1)]) (st' := []) rfl rfl rfl rfl ?_
      refine ax_s (pc' := 124) (st' := [.long (lN e)]) rfl rfl rfl rfl ?_
      refine ax_s (pc' := 126) (st' := [.int (nI T), .long (lN e)]) rfl rfl rfl rfl ?_
      refine ax_s (pc' := 128) (st' := [.int (nI i), .int (nI T), .long (lN e)]) rfl rfl rfl rfl ?_
      refine ax_s (pc' := 129) (st' := [.int ((nI T) >>> ((nI i) &&& 31)), .long (lN e)]) rfl rfl rfl rfl ?_
      refine ax_s (pc' := 130) (st' := [.int 1, .int ((nI T) >>> ((nI i) &&& 31)), .long (lN e)]) rfl rfl rfl rfl ?_
      refine ax_s (pc' := 131) (st' := [.int (((nI T) >>> ((nI i) &&& 31)) &&& 1), .long (lN e)]) rfl rfl rfl rfl ?_
      refine ax_if_ne rfl (fun c9 => ?_) (fun c9 => ?_)
      · refine ax_s (pc' := 140) (st' := [.int 1, .long (lN e)]) rfl rfl rfl rfl ?_
        refine ax_if_eq rfl (fun c10 => False.elim (by revert c10; decide)) (fun c10 => ?_)
        refine ax_s (pc' := 144) (st' := [.int (nI p), .long (lN e)]) rfl rfl rfl rfl ?_
        refine ax_s (pc' := 145) (st' := [.long (nI p).toInt64, .long (lN e)]) rfl rfl rfl rfl ?_
        refine ax_s (pc' := 153) (st' := [.long (nI p).toInt64, .long (lN e)]) rfl rfl rfl rfl ?_
        refine ax_s (pc' := 154) (st' := [.long ((lN e) * (nI p).toInt64)]) rfl rfl rfl rfl ?_
        refine ax_s (pc' := 156) (ls' := [some (.ref 285), some (.int (nI t)), some (.int (nI p)), some (.int q), some (.int (nI T)), some (.long (lN c)), none, some (.long (lN a)), none, some (.int (nI s)), some (.long ((lN e) * (nI p).toInt64)), none, some (.int (nI i)), some (.int 1)]) (st' := []) rfl rfl rfl rfl ?_
        refine ax_s (pc' := 157) (st' := [.ref 285]) rfl rfl rfl rfl ?_
        refine ax_get rfl (hh_285 _ _ _) rfl rfl rfl ?_
        show am_ex (d + 8) 216 160 [some (.ref 285), some (.int (nI t)), some (.int (nI p)), some (.int q), some (.int (nI T)), some (.long (lN c)), none, some (.long (lN a)), none, some (.int (nI s)), some (.long ((lN e) * (nI p).toInt64)), none, some (.int (nI i)), some (.int 1)] [.ref 298] (am_hh X S1 L) _
        refine ax_s (pc' := 162) (st' := [.int 15, .ref 298]) rfl rfl rfl rfl ?_
        refine ax_s (pc' := 164) (st' := [.int (nI i), .int 15, .ref 298]) rfl rfl rfl rfl ?_
        refine ax_s (pc' := 165) (st' := [.int (15 + (nI i)), .ref 298]) rfl rfl rfl rfl ?_
        refine ax_s (pc' := 167) (st' := [.int 1, .int (15 + (nI i)), .ref 298]) rfl rfl rfl rfl ?_
        refine ax_if_eq rfl (fun c11 => False.elim (by revert c11; decide)) (fun c11 => ?_)
        refine ax_s (pc' := 171) (st' := [.int 3, .int (15 + (nI i)), .ref 298]) rfl rfl rfl rfl ?_
        refine ax_s (pc' := 184) (st' := [.int 3, .int (15 + (nI i)), .ref 298]) rfl rfl rfl rfl ?_
        refine ax_ast (j := (15 + i)) rfl (hh_298 _ _ _) rfl (am_na (x := 15) (y := i) rfl rfl) (x4 c1 c4 c9) (by decide) (am_hh_set _ _ _ 298 (15 + i) _ rfl) ?_
        refine ax_s (pc' := 188) (ls' := [some (.ref 285), some (.int (nI t)), some (.int (nI p)), some (.int q), some (.int (nI T)), some (.long (lN c)), none, some (.long (lN a)), none, some (.int (nI s)), some (.long ((lN e) * (nI p).toInt64)), none, some (.int ((nI i) + 1)), some (.int 1)]) (st' := []) rfl rfl rfl rfl ?_
        rw [nI_1]
        refine ax_s (pc' := 95) (st' := []) rfl rfl rfl rfl ?_
        exact k5 c1 c4 c9
      · refine ax_s (pc' := 135) (st' := [.long 1, .long (lN e)]) rfl rfl rfl rfl ?_
        refine ax_s (pc' := 153) (st' := [.long 1, .long (lN e)]) rfl rfl rfl rfl ?_
        refine ax_s (pc' := 154) (st' := [.long ((lN e) * 1)]) rfl rfl rfl rfl ?_
        refine ax_s (pc' := 156) (ls' := [some (.ref 285), some (.int (nI t)), some (.int (nI p)), some (.int q), some (.int (nI T)), some (.long (lN c)), none, some (.long (lN a)), none, some (.int (nI s)), some (.long ((lN e) * 1)), none, some (.int (nI i)), some (.int 1)]) (st' := []) rfl rfl rfl rfl ?_
        refine ax_s (pc' := 157) (st' := [.ref 285]) rfl rfl rfl rfl ?_
        refine ax_get rfl (hh_285 _ _ _) rfl rfl rfl ?_
        show am_ex (d + 8) 216 160 [some (.ref 285), some (.int (nI t)), some (.int (nI p)), some (.int q), some (.int (nI T)), some (.long (lN c)), none, some (.long (lN a)), none, some (.int (nI s)), some (.long ((lN e) * 1)), none, some (.int (nI i)), some (.int 1)] [.ref 298] (am_hh X S1 L) _
        refine ax_s (pc' := 162) (st' := [.int 15, .ref 298]) rfl rfl rfl rfl ?_
        refine ax_s (pc' := 164) (st' := [.int (nI i), .int 15, .ref 298]) rfl rfl rfl rfl ?_
        refine ax_s (pc' := 165) (st' := [.int (15 + (nI i)), .ref 298]) rfl rfl rfl rfl ?_
        refine ax_s (pc' := 167) (st' := [.int 1, .int (15 + (nI i)), .ref 298]) rfl rfl rfl rfl ?_
        refine ax_if_eq rfl (fun c12 => False.elim (by revert c12; decide)) (fun c12 => ?_)
        refine ax_s (pc' := 171) (st' := [.int 3, .int (15 + (nI i)), .ref 298]) rfl rfl rfl rfl ?_
        refine ax_s (pc' := 184) (st' := [.int 3, .int (15 + (nI i)), .ref 298]) rfl rfl rfl rfl ?_
        refine ax_ast (j := (15 + i)) rfl (hh_298 _ _ _) rfl (am_na (x := 15) (y := i) rfl rfl) (x5 c1 c4 c9) (by decide) (am_hh_set _ _ _ 298 (15 + i) _ rfl) ?_
        refine ax_s (pc' := 188) (ls' := [some (.ref 285), some (.int (nI t)), some (.int (nI p)), some (.int q), some (.int (nI T)), some (.long (lN c)), none, some (.long (lN a)), none, some (.int (nI s)), some (.long ((lN e) * 1)), none, some (.int ((nI i) + 1)), some (.int 1)]) (st' := []) rfl rfl rfl rfl ?_
        rw [nI_1]
        refine ax_s (pc' := 95) (st' := []) rfl rfl rfl rfl ?_
        exact k6 c1 c4 c9
theorem wv_m_away {d : Nat} {X : Nat × (Nat → Int32)} {S : Nat → Nat → Int32} {L : Nat → Int64} {g n t p : Nat} {q : Int32} {Q : Option Value → am_H → Prop} (hF : mF S g n)  (hg : ¬ ((S 285 8) = 0) ∧ (¬ (nI t) < 0 ∧ ¬ 40 < (nI t)) ∧ (¬ (nI p) < 0 ∧ ¬ 10 < (nI p)) ∧ (¬ q < 0 ∧ ¬ 1 < q)) (k1 : am_ex (d + 8) 216 64 [some (.ref 285), some (.int (nI t)), some (.int (nI p)), some (.int q), some (.int (m_th S 293 0 n 0 0)), some (.long 0), none, some (.long 0), none, some (.int 0), none, none, none, none] [] (am_hh X S L) Q) : am_mt (d + 8) 216 [.ref 285, .int (nI t), .int (nI p), .int q] (am_hh X S L) Q := by
  refine ax_in (ls := [some (.ref 285), some (.int (nI t)), some (.int (nI p)), some (.int q), none, none, none, none, none, none, none, none, none, none]) rfl ?_
  refine ax_s (pc' := 1) (st' := [.ref 285]) rfl rfl rfl rfl ?_
  refine ax_call (vs := [.ref 285]) (rr := []) rfl rfl rfl ?_
  refine mt_isNone  ?_
  show am_ex (d + 8) 216 4 [some (.ref 285), some (.int (nI t)), some (.int (nI p)), some (.int q), none, none, none, none, none, none, none, none, none, none] [.int (bI (decide ((S 285 8) = 0)))] (am_hh X S L) _
  refine ax_pF rfl (fun c1 => ?_) (fun c1 => ?_)
  · refine ax_s (pc' := 12) (st' := [.int (nI t)]) rfl rfl rfl rfl ?_
    refine ax_s (pc' := 13) (st' := [.int 0, .int (nI t)]) rfl rfl rfl rfl ?_
    refine ax_s (pc' := 15) (st' := [.int 40, .int 0, .int (nI t)]) rfl rfl rfl rfl ?_
    refine ax_call (vs := [.int (nI t), .int 0, .int 40]) (rr := []) rfl rfl rfl ?_
    refine mt_in ?_
    show am_ex (d + 8) 216 18 [some (.ref 285), some (.int (nI t)), some (.int (nI p)), some (.int q), none, none, none, none, none, none, none, none, none, none] [.int (bI (decide (¬ (nI t) < 0 ∧ ¬ 40 < (nI t))))] (am_hh X S L) _
    refine ax_pF rfl (fun c2 => ?_) (fun c2 => ?_)
    · refine ax_s (pc' := 43) (st' := [.long (-1000001)]) rfl rfl rfl rfl ?_
      refine ax_r rfl rfl rfl ?_
      first | exact absurd (hg.2.1) c2 | exact absurd c2 (hg.2.1) | exact absurd (hg.2.1) (ne_true_of_eq_false c2)
    · refine ax_s (pc' := 22) (st' := [.int (nI p)]) rfl rfl rfl rfl ?_
      refine ax_s (pc' := 23) (st' := [.int 0, .int (nI p)]) rfl rfl rfl rfl ?_
      refine ax_s (pc' := 25) (st' := [.int 10, .int 0, .int (nI p)]) rfl rfl rfl rfl ?_
      refine ax_call (vs := [.int (nI p), .int 0, .int 10]) (rr := []) rfl rfl rfl ?_
      refine mt_in ?_
      show am_ex (d + 8) 216 28 [some (.ref 285), some (.int (nI t)), some (.int (nI p)), some (.int q), none, none, none, none, none, none, none, none, none, none] [.int (bI (decide (¬ (nI p) < 0 ∧ ¬ 10 < (nI p))))] (am_hh X S L) _
      refine ax_pF rfl (fun c3 => ?_) (fun c3 => ?_)
      · refine ax_s (pc' := 43) (st' := [.long (-1000001)]) rfl rfl rfl rfl ?_
        refine ax_r rfl rfl rfl ?_
        first | exact absurd (hg.2.2.1) c3 | exact absurd c3 (hg.2.2.1) | exact absurd (hg.2.2.1) (ne_true_of_eq_false c3)
      · refine ax_s (pc' := 32) (st' := [.int q]) rfl rfl rfl rfl ?_
        refine ax_s (pc' := 33) (st' := [.int 0, .int q]) rfl rfl rfl rfl ?_
        refine ax_s (pc' := 34) (st' := [.int 1, .int 0, .int q]) rfl rfl rfl rfl ?_
        refine ax_call (vs := [.int q, .int 0, .int 1]) (rr := []) rfl rfl rfl ?_
        refine mt_in ?_
        show am_ex (d + 8) 216 37 [some (.ref 285), some (.int (nI t)), some (.int (nI p)), some (.int q), none, none, none, none, none, none, none, none, none, none] [.int (bI (decide (¬ q < 0 ∧ ¬ 1 < q)))] (am_hh X S L) _
        refine ax_pT rfl (fun c4 => ?_) (fun c4 => ?_)
        · refine ax_s (pc' := 45) (st' := [.ref 285]) rfl rfl rfl rfl ?_
          refine ax_s (pc' := 46) (st' := [.ref 285, .ref 285]) rfl rfl rfl rfl ?_
          refine ax_get rfl (hh_285 _ _ _) rfl rfl rfl ?_
          show am_ex (d + 8) 216 49 [some (.ref 285), some (.int (nI t)), some (.int (nI p)), some (.int q), none, none, none, none, none, none, none, none, none, none] [.ref 293, .ref 285] (am_hh X S L) _
          refine ax_s (pc' := 50) (st' := [.int 0, .ref 293, .ref 285]) rfl rfl rfl rfl ?_
          refine ax_call (vs := [.ref 285, .ref 293, .int 0]) (rr := []) rfl rfl rfl ?_
          refine mt_those hF.1.1 hF.1.2 (Or.inl rfl) ?_
          show am_ex (d + 8) 216 53 [some (.ref 285), some (.int (nI t)), some (.int (nI p)), some (.int q), none, none, none, none, none, none, none, none, none, none] [.int (m_th S 293 0 n 0 0)] (am_hh X S L) _
          refine ax_s (pc' := 55) (ls' := [some (.ref 285), some (.int (nI t)), some (.int (nI p)), some (.int q), some (.int (m_th S 293 0 n 0 0)), none, none, none, none, none, none, none, none, none]) (st' := []) rfl rfl rfl rfl ?_
          refine ax_s (pc' := 56) (st' := [.long 0]) rfl rfl rfl rfl ?_
          refine ax_s (pc' := 58) (ls' := [some (.ref 285), some (.int (nI t)), some (.int (nI p)), some (.int q), some (.int (m_th S 293 0 n 0 0)), some (.long 0), none, none, none, none, none, none, none, none]) (st' := []) rfl rfl rfl rfl ?_
          refine ax_s (pc' := 59) (st' := [.long 0]) rfl rfl rfl rfl ?_
          refine ax_s (pc' := 61) (ls' := [some (.ref 285), some (.int (nI t)), some (.int (nI p)), some (.int q), some (.int (m_th S 293 0 n 0 0)), some (.long 0), none, some (.long 0), none, none, none, none, none, none]) (st' := []) rfl rfl rfl rfl ?_
          refine ax_s (pc' := 62) (st' := [.int 0]) rfl rfl rfl rfl ?_
          refine ax_s (pc' := 64) (ls' := [some (.ref 285), some (.int (nI t)), some (.int (nI p)), some (.int q), some (.int (m_th S 293 0 n 0 0)), some (.long 0), none, some (.long 0), none, some (.int 0), none, none, none, none]) (st' := []) rfl rfl rfl rfl ?_
          exact k1
        · refine ax_s (pc' := 43) (st' := [.long (-1000001)]) rfl rfl rfl rfl ?_
          refine ax_r rfl rfl rfl ?_
          first | exact absurd (hg.2.2.2) c4 | exact absurd c4 (hg.2.2.2) | exact absurd (hg.2.2.2) (ne_true_of_eq_false c4)
  · refine ax_s (pc' := 10) (st' := [.long (-1000002)]) rfl rfl rfl rfl ?_
    refine ax_r rfl rfl rfl ?_
    first | exact absurd (hg.1) c1 | exact absurd c1 (hg.1) | exact absurd (hg.1) (ne_true_of_eq_false c1)
theorem wv_k_away {d : Nat} {X : Nat × (Nat → Int32)} {S : Nat → Nat → Int32} {L : Nat → Int64} {t p : Nat} {q : Int32} {A1 A2 : Int64} {Q : Option Value → am_H → Prop} (hO : ∀ Q : Option Value → am_H → Prop, (∀ W1, w_cl W1 → Q none (am_hh X (am_ovl S 29 W1) (am_ul (am_ul L 3 A1) 4 A2))) → am_mt (d + 7) 120 [.ref 281, .int (nI t), .int (nI p)] (am_hh X S L) Q)  (hg : ¬ (S 20 4) ≤ 0 ∧ (¬ ((nI t) < 0 ∨ 40 < (nI t))) ∧ (¬ ((nI p) < 0 ∨ 10 < (nI p))) ∧ (¬ (q < 0 ∨ 1 < q))) (k1 : ∀ W5 : Nat → Nat → Int32, w_cl W5 → ¬ q = 0 → Q (some (.long ((am_ul (am_ul L 3 A1) 4 A2) 4))) (am_hh X (am_ovl S 29 W5) (am_ul (am_ul L 3 A1) 4 A2))) (k2 : ∀ W5 : Nat → Nat → Int32, w_cl W5 → q = 0 → Q (some (.long ((am_ul (am_ul L 3 A1) 4 A2) 3))) (am_hh X (am_ovl S 29 W5) (am_ul (am_ul L 3 A1) 4 A2))) : am_mt (d + 8) 119 [.ref 5, .int (nI t), .int (nI p), .int q] (am_hh X S L) Q := by
  refine ax_in (ls := [some (.ref 5), some (.int (nI t)), some (.int (nI p)), some (.int q)]) rfl ?_
  refine ax_s (pc' := 1) (st' := [.ref 5]) rfl rfl rfl rfl ?_
  refine ax_get rfl (hh_5 _ _ _) rfl rfl rfl ?_
  show am_ex (d + 8) 119 4 [some (.ref 5), some (.int (nI t)), some (.int (nI p)), some (.int q)] [.ref 20] (am_hh X S L) _
  refine ax_call (vs := [.ref 20]) (rr := []) rfl rfl rfl ?_
  refine kw (am_hh_sub isW20 X S L) (am_hh_sub isW20 X S L).symm (fun _ => ct_stands (am_isW_k isW20 X S L)) ?_
  show am_ex (d + 8) 119 7 [some (.ref 5), some (.int (nI t)), some (.int (nI p)), some (.int q)] [.int (bI (decide (¬ (S 20 4) ≤ 0)))] (am_hh X S L) _
  refine ax_qT rfl (fun c1 => ?_) (fun c1 => ?_)
  · refine ax_s (pc' := 15) (st' := [.int (nI t)]) rfl rfl rfl rfl ?_
    refine ax_s (pc' := 16) (st' := [.int 0, .int (nI t)]) rfl rfl rfl rfl ?_
    refine ax_s (pc' := 18) (st' := [.int 40, .int 0, .int (nI t)]) rfl rfl rfl rfl ?_
    refine ax_call (vs := [.int (nI t), .int 0, .int 40]) (rr := []) rfl rfl rfl ?_
    refine ct_isOutside ?_
    show am_ex (d + 8) 119 21 [some (.ref 5), some (.int (nI t)), some (.int (nI p)), some (.int q)] [.int (bI (decide ((nI t) < 0 ∨ 40 < (nI t))))] (am_hh X S L) _
    refine ax_pT rfl (fun c2 => ?_) (fun c2 => ?_)
    · refine ax_s (pc' := 46) (st' := [.long (-1000001)]) rfl rfl rfl rfl ?_
      refine ax_r rfl rfl rfl ?_
      first | exact absurd (hg.2.1) c2 | exact absurd c2 (hg.2.1) | exact absurd (hg.2.1) (ne_true_of_eq_false c2)
    · refine ax_s (pc' := 25) (st' := [.int (nI p)]) rfl rfl rfl rfl ?_
      refine ax_s (pc' := 26) (st' := [.int 0, .int (nI p)]) rfl rfl rfl rfl ?_
      refine ax_s (pc' := 28) (st' := [.int 10, .int 0, .int (nI p)]) rfl rfl rfl rfl ?_
      refine ax_call (vs := [.int (nI p), .int 0, .int 10]) (rr := []) rfl rfl rfl ?_
      refine ct_isOutside ?_
      show am_ex (d + 8) 119 31 [some (.ref 5), some (.int (nI t)), some (.int (nI p)), some (.int q)] [.int (bI (decide ((nI p) < 0 ∨ 10 < (nI p))))] (am_hh X S L) _
      refine ax_pT rfl (fun c3 => ?_) (fun c3 => ?_)
      · refine ax_s (pc' := 46) (st' := [.long (-1000001)]) rfl rfl rfl rfl ?_
        refine ax_r rfl rfl rfl ?_
        first | exact absurd (hg.2.2.1) c3 | exact absurd c3 (hg.2.2.1) | exact absurd (hg.2.2.1) (ne_true_of_eq_false c3)
      · refine ax_s (pc' := 35) (st' := [.int q]) rfl rfl rfl rfl ?_
        refine ax_s (pc' := 36) (st' := [.int 0, .int q]) rfl rfl rfl rfl ?_
        refine ax_s (pc' := 37) (st' := [.int 1, .int 0, .int q]) rfl rfl rfl rfl ?_
        refine ax_call (vs := [.int q, .int 0, .int 1]) (rr := []) rfl rfl rfl ?_
        refine ct_isOutside ?_
        show am_ex (d + 8) 119 40 [some (.ref 5), some (.int (nI t)), some (.int (nI p)), some (.int q)] [.int (bI (decide (q < 0 ∨ 1 < q)))] (am_hh X S L) _
        refine ax_pF rfl (fun c4 => ?_) (fun c4 => ?_)
        · refine ax_s (pc' := 48) (st' := [.ref 5]) rfl rfl rfl rfl ?_
          refine ax_get rfl (hh_5 _ _ _) rfl rfl rfl ?_
          show am_ex (d + 8) 119 51 [some (.ref 5), some (.int (nI t)), some (.int (nI p)), some (.int q)] [.ref 281] (am_hh X S L) _
          refine ax_s (pc' := 52) (st' := [.int (nI t), .ref 281]) rfl rfl rfl rfl ?_
          refine ax_s (pc' := 53) (st' := [.int (nI p), .int (nI t), .ref 281]) rfl rfl rfl rfl ?_
          refine ax_call (vs := [.ref 281, .int (nI t), .int (nI p)]) (rr := []) rfl rfl rfl ?_
          refine hO _ (fun W5 h5 => ?_)
          show am_ex (d + 8) 119 56 [some (.ref 5), some (.int (nI t)), some (.int (nI p)), some (.int q)] [] (am_hh X (am_ovl S 29 W5) (am_ul (am_ul L 3 A1) 4 A2)) _
          refine ax_s (pc' := 57) (st' := [.int q]) rfl rfl rfl rfl ?_
          refine ax_if_ne rfl (fun c6 => ?_) (fun c6 => ?_)
          · refine ax_s (pc' := 71) (st' := [.ref 5]) rfl rfl rfl rfl ?_
            refine ax_get rfl (hh_5 _ _ _) rfl rfl rfl ?_
            show am_ex (d + 8) 119 74 [some (.ref 5), some (.int (nI t)), some (.int (nI p)), some (.int q)] [.ref 281] (am_hh X (am_ovl S 29 W5) (am_ul (am_ul L 3 A1) 4 A2)) _
            refine ax_get rfl (hh_281 _ _ _) rfl rfl rfl ?_
            show am_ex (d + 8) 119 77 [some (.ref 5), some (.int (nI t)), some (.int (nI p)), some (.int q)] [.long ((am_ul (am_ul L 3 A1) 4 A2) 4)] (am_hh X (am_ovl S 29 W5) (am_ul (am_ul L 3 A1) 4 A2)) _
            refine ax_r rfl rfl rfl ?_
            exact k1 W5 h5 c6
          · refine ax_s (pc' := 61) (st' := [.ref 5]) rfl rfl rfl rfl ?_
            refine ax_get rfl (hh_5 _ _ _) rfl rfl rfl ?_
            show am_ex (d + 8) 119 64 [some (.ref 5), some (.int (nI t)), some (.int (nI p)), some (.int q)] [.ref 281] (am_hh X (am_ovl S 29 W5) (am_ul (am_ul L 3 A1) 4 A2)) _
            refine ax_get rfl (hh_281 _ _ _) rfl rfl rfl ?_
            show am_ex (d + 8) 119 67 [some (.ref 5), some (.int (nI t)), some (.int (nI p)), some (.int q)] [.long ((am_ul (am_ul L 3 A1) 4 A2) 3)] (am_hh X (am_ovl S 29 W5) (am_ul (am_ul L 3 A1) 4 A2)) _
            refine ax_s (pc' := 77) (st' := [.long ((am_ul (am_ul L 3 A1) 4 A2) 3)]) rfl rfl rfl rfl ?_
            refine ax_r rfl rfl rfl ?_
            exact k2 W5 h5 c6
        · refine ax_s (pc' := 46) (st' := [.long (-1000001)]) rfl rfl rfl rfl ?_
          refine ax_r rfl rfl rfl ?_
          first | exact absurd (hg.2.2.2) c4 | exact absurd c4 (hg.2.2.2) | exact absurd (hg.2.2.2) (ne_true_of_eq_false c4)
  · refine ax_s (pc' := 13) (st' := [.long (-1000002)]) rfl rfl rfl rfl ?_
    refine ax_r rfl rfl rfl ?_
    first | exact absurd (hg.1) c1 | exact absurd c1 (hg.1) | exact absurd (hg.1) (ne_true_of_eq_false c1)
