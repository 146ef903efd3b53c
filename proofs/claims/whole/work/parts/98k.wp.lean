theorem wp_readLaw {d : Nat} {X : Nat × (Nat → Int32)} {S : Nat → Nat → Int32} {L : Nat → Int64} {b : Nat → Int32} {len : Nat} {s : Int32 × Nat} {Q : Option Value → am_H → Prop} (hT : TP b len S s)  (k1 : ∀ S1 : Nat → Nat → Int32, TF S S1 → TP b len S1 (pz_sign b len 119 s) → ∀ v2 : Int32, ∀ S2 : Nat → Nat → Int32, TF S1 S2 → TP b len S2 (pz_num b len 4 12 (pz_sign b len 119 s)) → ((pz_num b len 4 12 (pz_sign b len 119 s)).1 = 0 → v2 = pz_v b len (pz_sign b len 119 s).2) → ∀ S3 : Nat → Nat → Int32, TF S2 S3 → TP b len S3 (pz_sign b len 44 (pz_num b len 4 12 (pz_sign b len 119 s))) → ∀ v4 : Int32, ∀ S4 : Nat → Nat → Int32, TF S3 S4 → TP b len S4 (pz_num b len 1 99 (pz_sign b len 44 (pz_num b len 4 12 (pz_sign b len 119 s)))) → ((pz_num b len 1 99 (pz_sign b len 44 (pz_num b len 4 12 (pz_sign b len 119 s)))).1 = 0 → v4 = pz_v b len (pz_sign b len 44 (pz_num b len 4 12 (pz_sign b len 119 s))).2) → ∀ S5 : Nat → Nat → Int32, TF S4 S5 → TP b len S5 (pz_sign b len 59 (pz_num b len 1 99 (pz_sign b len 44 (pz_num b len 4 12 (pz_sign b len 119 s))))) → ¬ (S5 18 1) = 0 → Q none (am_hh X S5 L)) (k2 : ∀ S1 : Nat → Nat → Int32, TF S S1 → TP b len S1 (pz_sign b len 119 s) → ∀ v2 : Int32, ∀ S2 : Nat → Nat → Int32, TF S1 S2 → TP b len S2 (pz_num b len 4 12 (pz_sign b len 119 s)) → ((pz_num b len 4 12 (pz_sign b len 119 s)).1 = 0 → v2 = pz_v b len (pz_sign b len 119 s).2) → ∀ S3 : Nat → Nat → Int32, TF S2 S3 → TP b len S3 (pz_sign b len 44 (pz_num b len 4 12 (pz_sign b len 119 s))) → ∀ v4 : Int32, ∀ S4 : Nat → Nat → Int32, TF S3 S4 → TP b len S4 (pz_num b len 1 99 (pz_sign b len 44 (pz_num b len 4 12 (pz_sign b len 119 s)))) → ((pz_num b len 1 99 (pz_sign b len 44 (pz_num b len 4 12 (pz_sign b len 119 s)))).1 = 0 → v4 = pz_v b len (pz_sign b len 44 (pz_num b len 4 12 (pz_sign b len 119 s))).2) → ∀ S5 : Nat → Nat → Int32, TF S4 S5 → TP b len S5 (pz_sign b len 59 (pz_num b len 1 99 (pz_sign b len 44 (pz_num b len 4 12 (pz_sign b len 119 s))))) → (S5 18 1) = 0 → Q none (am_hh X (am_ovl S5 29 (w_bg (am_sub S5 29) v2 v4)) L)) : am_mt (d + 5) 30 [.ref 18, .ref 29] (am_hh X S L) Q := by
  refine ax_in (ls := [some (.ref 18), some (.ref 29), none, none]) rfl ?_
  refine ax_s (pc' := 1) (st' := [.ref 18]) rfl rfl rfl rfl ?_
  refine ax_s (pc' := 3) (st' := [.int 119, .ref 18]) rfl rfl rfl rfl ?_
  refine ax_call (vs := [.ref 18, .int 119]) (rr := []) rfl rfl rfl ?_
  refine kt_sign hT (by decide) (fun S1 t1 u1 => ?_)
  show am_ex (d + 5) 30 6 [some (.ref 18), some (.ref 29), none, none] [] (am_hh X S1 L) _
  refine ax_s (pc' := 7) (st' := [.ref 18]) rfl rfl rfl rfl ?_
  refine ax_s (pc' := 8) (st' := [.int 4, .ref 18]) rfl rfl rfl rfl ?_
  refine ax_s (pc' := 10) (st' := [.int 12, .int 4, .ref 18]) rfl rfl rfl rfl ?_
  refine ax_call (vs := [.ref 18, .int 4, .int 12]) (rr := []) rfl rfl rfl ?_
  refine kt_num u1 (fun v2 S2 t2 u2 z2 => ?_)
  show am_ex (d + 5) 30 13 [some (.ref 18), some (.ref 29), none, none] [.int v2] (am_hh X S2 L) _
  refine ax_s (pc' := 14) (ls' := [some (.ref 18), some (.ref 29), some (.int v2), none]) (st' := []) rfl rfl rfl rfl ?_
  refine ax_s (pc' := 15) (st' := [.ref 18]) rfl rfl rfl rfl ?_
  refine ax_s (pc' := 17) (st' := [.int 44, .ref 18]) rfl rfl rfl rfl ?_
  refine ax_call (vs := [.ref 18, .int 44]) (rr := []) rfl rfl rfl ?_
  refine kt_sign u2 (by decide) (fun S3 t3 u3 => ?_)
  show am_ex (d + 5) 30 20 [some (.ref 18), some (.ref 29), some (.int v2), none] [] (am_hh X S3 L) _
  refine ax_s (pc' := 21) (st' := [.ref 18]) rfl rfl rfl rfl ?_
  refine ax_s (pc' := 22) (st' := [.int 1, .ref 18]) rfl rfl rfl rfl ?_
  refine ax_s (pc' := 24) (st' := [.int 99, .int 1, .ref 18]) rfl rfl rfl rfl ?_
  refine ax_call (vs := [.ref 18, .int 1, .int 99]) (rr := []) rfl rfl rfl ?_
  refine kt_num u3 (fun v4 S4 t4 u4 z4 => ?_)
  show am_ex (d + 5) 30 27 [some (.ref 18), some (.ref 29), some (.int v2), none] [.int v4] (am_hh X S4 L) _
  refine ax_s (pc' := 28) (ls' := [some (.ref 18), some (.ref 29), some (.int v2), some (.int v4)]) (st' := []) rfl rfl rfl rfl ?_
  refine ax_s (pc' := 29) (st' := [.ref 18]) rfl rfl rfl rfl ?_
  refine ax_s (pc' := 31) (st' := [.int 59, .ref 18]) rfl rfl rfl rfl ?_
  refine ax_call (vs := [.ref 18, .int 59]) (rr := []) rfl rfl rfl ?_
  refine kt_sign u4 (by decide) (fun S5 t5 u5 => ?_)
  show am_ex (d + 5) 30 34 [some (.ref 18), some (.ref 29), some (.int v2), some (.int v4)] [] (am_hh X S5 L) _
  refine ax_s (pc' := 35) (st' := [.ref 18]) rfl rfl rfl rfl ?_
  refine ax_get rfl (hh_18 _ _ _) rfl rfl rfl ?_
  show am_ex (d + 5) 30 38 [some (.ref 18), some (.ref 29), some (.int v2), some (.int v4)] [.int (S5 18 1)] (am_hh X S5 L) _
  refine ax_if_ne rfl (fun c6 => ?_) (fun c6 => ?_)
  · refine ax_r rfl rfl rfl ?_
    exact k1 S1 t1 u1 v2 S2 t2 u2 z2 S3 t3 u3 v4 S4 t4 u4 z4 S5 t5 u5 c6
  · refine ax_s (pc' := 42) (st' := [.ref 29]) rfl rfl rfl rfl ?_
    refine ax_s (pc' := 43) (st' := [.int v2, .ref 29]) rfl rfl rfl rfl ?_
    refine ax_s (pc' := 44) (st' := [.int v4, .int v2, .ref 29]) rfl rfl rfl rfl ?_
    refine ax_call (vs := [.ref 29, .int v2, .int v4]) (rr := []) rfl rfl rfl ?_
    refine kw (am_hh_sub isW29 X S5 L) (am_hh_ov isW29 X S5 L _) (fun _ => ct_begin (am_isW_k isW29 X S5 L)) ?_
    show am_ex (d + 5) 30 47 [some (.ref 18), some (.ref 29), some (.int v2), some (.int v4)] [] (am_hh X (am_ovl S5 29 (w_bg (am_sub S5 29) v2 v4)) L) _
    refine ax_r rfl rfl rfl ?_
    exact k2 S1 t1 u1 v2 S2 t2 u2 z2 S3 t3 u3 v4 S4 t4 u4 z4 S5 t5 u5 c6
theorem wp_readParty {d : Nat} {X : Nat × (Nat → Int32)} {S : Nat → Nat → Int32} {L : Nat → Int64} {b : Nat → Int32} {len : Nat} {s : Int32 × Nat} {p : Nat} {Q : Option Value → am_H → Prop} (hT : TP b len S s) (hp : S 29 4 = nI p)  (x1 : 6 ≤ (S 29 4) → ∀ v2 : Int32, ∀ S2 : Nat → Nat → Int32, TF S S2 → TP b len S2 (pz_sort b len false s) → ((pz_sort b len false s).1 = 0 → v2 = pz_kind (pz_by b len s.2)) → ∀ v3 : Int32, ∀ S3 : Nat → Nat → Int32, TF S2 S3 → TP b len S3 (pz_num b len 1 9 (pz_sort b len false s)) → ((pz_num b len 1 9 (pz_sort b len false s)).1 = 0 → v3 = pz_v b len (pz_sort b len false s).2) → ∀ S4 : Nat → Nat → Int32, TF S3 S4 → TP b len S4 (pz_sign b len 44 (pz_num b len 1 9 (pz_sort b len false s))) → ∀ v5 : Int32, ∀ S5 : Nat → Nat → Int32, TF S4 S5 → TP b len S5 (pz_num b len 1 4 (pz_sign b len 44 (pz_num b len 1 9 (pz_sort b len false s)))) → ((pz_num b len 1 4 (pz_sign b len 44 (pz_num b len 1 9 (pz_sort b len false s)))).1 = 0 → v5 = pz_v b len (pz_sign b len 44 (pz_num b len 1 9 (pz_sort b len false s))).2) → ∀ S6 : Nat → Nat → Int32, TF S5 S6 → TP b len S6 (pz_sign b len 59 (pz_num b len 1 4 (pz_sign b len 44 (pz_num b len 1 9 (pz_sort b len false s))))) → (S6 18 1) = 0 → ¬ (S6 29 4) < 0 → (S6 29 4) < 6 → p < 6) (x2 : ¬ 6 ≤ (S 29 4) → ∀ v10 : Int32, ∀ S10 : Nat → Nat → Int32, TF S S10 → TP b len S10 (pz_sort b len true s) → ((pz_sort b len true s).1 = 0 → v10 = pz_kind (pz_by b len s.2)) → ∀ v11 : Int32, ∀ S11 : Nat → Nat → Int32, TF S10 S11 → TP b len S11 (pz_num b len 1 9 (pz_sort b len true s)) → ((pz_num b len 1 9 (pz_sort b len true s)).1 = 0 → v11 = pz_v b len (pz_sort b len true s).2) → ∀ S12 : Nat → Nat → Int32, TF S11 S12 → TP b len S12 (pz_sign b len 44 (pz_num b len 1 9 (pz_sort b len true s))) → ∀ v13 : Int32, ∀ S13 : Nat → Nat → Int32, TF S12 S13 → TP b len S13 (pz_num b len 1 4 (pz_sign b len 44 (pz_num b len 1 9 (pz_sort b len true s)))) → ((pz_num b len 1 4 (pz_sign b len 44 (pz_num b len 1 9 (pz_sort b len true s)))).1 = 0 → v13 = pz_v b len (pz_sign b len 44 (pz_num b len 1 9 (pz_sort b len true s))).2) → ∀ S14 : Nat → Nat → Int32, TF S13 S14 → TP b len S14 (pz_sign b len 59 (pz_num b len 1 4 (pz_sign b len 44 (pz_num b len 1 9 (pz_sort b len true s))))) → (S14 18 1) = 0 → ¬ (S14 29 4) < 0 → (S14 29 4) < 6 → p < 6) (k1 : 6 ≤ (S 29 4) → ∀ v2 : Int32, ∀ S2 : Nat → Nat → Int32, TF S S2 → TP b len S2 (pz_sort b len false s) → ((pz_sort b len false s).1 = 0 → v2 = pz_kind (pz_by b len s.2)) → ∀ v3 : Int32, ∀ S3 : Nat → Nat → Int32, TF S2 S3 → TP b len S3 (pz_num b len 1 9 (pz_sort b len false s)) → ((pz_num b len 1 9 (pz_sort b len false s)).1 = 0 → v3 = pz_v b len (pz_sort b len false s).2) → ∀ S4 : Nat → Nat → Int32, TF S3 S4 → TP b len S4 (pz_sign b len 44 (pz_num b len 1 9 (pz_sort b len false s))) → ∀ v5 : Int32, ∀ S5 : Nat → Nat → Int32, TF S4 S5 → TP b len S5 (pz_num b len 1 4 (pz_sign b len 44 (pz_num b len 1 9 (pz_sort b len false s)))) → ((pz_num b len 1 4 (pz_sign b len 44 (pz_num b len 1 9 (pz_sort b len false s)))).1 = 0 → v5 = pz_v b len (pz_sign b len 44 (pz_num b len 1 9 (pz_sort b len false s))).2) → ∀ S6 : Nat → Nat → Int32, TF S5 S6 → TP b len S6 (pz_sign b len 59 (pz_num b len 1 4 (pz_sign b len 44 (pz_num b len 1 9 (pz_sort b len false s))))) → ¬ (S6 18 1) = 0 → Q none (am_hh X S6 L)) (k2 : 6 ≤ (S 29 4) → ∀ v2 : Int32, ∀ S2 : Nat → Nat → Int32, TF S S2 → TP b len S2 (pz_sort b len false s) → ((pz_sort b len false s).1 = 0 → v2 = pz_kind (pz_by b len s.2)) → ∀ v3 : Int32, ∀ S3 : Nat → Nat → Int32, TF S2 S3 → TP b len S3 (pz_num b len 1 9 (pz_sort b len false s)) → ((pz_num b len 1 9 (pz_sort b len false s)).1 = 0 → v3 = pz_v b len (pz_sort b len false s).2) → ∀ S4 : Nat → Nat → Int32, TF S3 S4 → TP b len S4 (pz_sign b len 44 (pz_num b len 1 9 (pz_sort b len false s))) → ∀ v5 : Int32, ∀ S5 : Nat → Nat → Int32, TF S4 S5 → TP b len S5 (pz_num b len 1 4 (pz_sign b len 44 (pz_num b len 1 9 (pz_sort b len false s)))) → ((pz_num b len 1 4 (pz_sign b len 44 (pz_num b len 1 9 (pz_sort b len false s)))).1 = 0 → v5 = pz_v b len (pz_sign b len 44 (pz_num b len 1 9 (pz_sort b len false s))).2) → ∀ S6 : Nat → Nat → Int32, TF S5 S6 → TP b len S6 (pz_sign b len 59 (pz_num b len 1 4 (pz_sign b len 44 (pz_num b len 1 9 (pz_sort b len false s))))) → (S6 18 1) = 0 → (S6 29 4) < 0 → Q none (am_hh X S6 L)) (k3 : 6 ≤ (S 29 4) → ∀ v2 : Int32, ∀ S2 : Nat → Nat → Int32, TF S S2 → TP b len S2 (pz_sort b len false s) → ((pz_sort b len false s).1 = 0 → v2 = pz_kind (pz_by b len s.2)) → ∀ v3 : Int32, ∀ S3 : Nat → Nat → Int32, TF S2 S3 → TP b len S3 (pz_num b len 1 9 (pz_sort b len false s)) → ((pz_num b len 1 9 (pz_sort b len false s)).1 = 0 → v3 = pz_v b len (pz_sort b len false s).2) → ∀ S4 : Nat → Nat → Int32, TF S3 S4 → TP b len S4 (pz_sign b len 44 (pz_num b len 1 9 (pz_sort b len false s))) → ∀ v5 : Int32, ∀ S5 : Nat → Nat → Int32, TF S4 S5 → TP b len S5 (pz_num b len 1 4 (pz_sign b len 44 (pz_num b len 1 9 (pz_sort b len false s)))) → ((pz_num b len 1 4 (pz_sign b len 44 (pz_num b len 1 9 (pz_sort b len false s)))).1 = 0 → v5 = pz_v b len (pz_sign b len 44 (pz_num b len 1 9 (pz_sort b len false s))).2) → ∀ S6 : Nat → Nat → Int32, TF S5 S6 → TP b len S6 (pz_sign b len 59 (pz_num b len 1 4 (pz_sign b len 44 (pz_num b len 1 9 (pz_sort b len false s))))) → (S6 18 1) = 0 → ¬ (S6 29 4) < 0 → (S6 29 4) < 6 → Q none (am_hh X (am_ovl (am_u (am_u (am_u (am_u S6 31 p v2) 32 p v3) 33 p v5) 29 4 ((S6 29 4) + 1)) 29 (w_ca (am_sub (am_u (am_u (am_u (am_u S6 31 p v2) 32 p v3) 33 p v5) 29 4 ((S6 29 4) + 1)) 29) p)) L)) (k4 : 6 ≤ (S 29 4) → ∀ v2 : Int32, ∀ S2 : Nat → Nat → Int32, TF S S2 → TP b len S2 (pz_sort b len false s) → ((pz_sort b len false s).1 = 0 → v2 = pz_kind (pz_by b len s.2)) → ∀ v3 : Int32, ∀ S3 : Nat → Nat → Int32, TF S2 S3 → TP b len S3 (pz_num b len 1 9 (pz_sort b len false s)) → ((pz_num b len 1 9 (pz_sort b len false s)).1 = 0 → v3 = pz_v b len (pz_sort b len false s).2) → ∀ S4 : Nat → Nat → Int32, TF S3 S4 → TP b len S4 (pz_sign b len 44 (pz_num b len 1 9 (pz_sort b len false s))) → ∀ v5 : Int32, ∀ S5 : Nat → Nat → Int32, TF S4 S5 → TP b len S5 (pz_num b len 1 4 (pz_sign b len 44 (pz_num b len 1 9 (pz_sort b len false s)))) → ((pz_num b len 1 4 (pz_sign b len 44 (pz_num b len 1 9 (pz_sort b len false s)))).1 = 0 → v5 = pz_v b len (pz_sign b len 44 (pz_num b len 1 9 (pz_sort b len false s))).2) → ∀ S6 : Nat → Nat → Int32, TF S5 S6 → TP b len S6 (pz_sign b len 59 (pz_num b len 1 4 (pz_sign b len 44 (pz_num b len 1 9 (pz_sort b len false s))))) → (S6 18 1) = 0 → ¬ (S6 29 4) < 0 → ¬ (S6 29 4) < 6 → Q none (am_hh X S6 L)) (k5 : ¬ 6 ≤ (S 29 4) → ∀ v10 : Int32, ∀ S10 : Nat → Nat → Int32, TF S S10 → TP b len S10 (pz_sort b len true s) → ((pz_sort b len true s).1 = 0 → v10 = pz_kind (pz_by b len s.2)) → ∀ v11 : Int32, ∀ S11 : Nat → Nat → Int32, TF S10 S11 → TP b len S11 (pz_num b len 1 9 (pz_sort b len true s)) → ((pz_num b len 1 9 (pz_sort b len true s)).1 = 0 → v11 = pz_v b len (pz_sort b len true s).2) → ∀ S12 : Nat → Nat → Int32, TF S11 S12 → TP b len S12 (pz_sign b len 44 (pz_num b len 1 9 (pz_sort b len true s))) → ∀ v13 : Int32, ∀ S13 : Nat → Nat → Int32, TF S12 S13 → TP b len S13 (pz_num b len 1 4 (pz_sign b len 44 (pz_num b len 1 9 (pz_sort b len true s)))) → ((pz_num b len 1 4 (pz_sign b len 44 (pz_num b len 1 9 (pz_sort b len true s)))).1 = 0 → v13 = pz_v b len (pz_sign b len 44 (pz_num b len 1 9 (pz_sort b len true s))).2) → ∀ S14 : Nat → Nat → Int32, TF S13 S14 → TP b len S14 (pz_sign b len 59 (pz_num b len 1 4 (pz_sign b len 44 (pz_num b len 1 9 (pz_sort b len true s))))) → ¬ (S14 18 1) = 0 → Q none (am_hh X S14 L)) (k6 : ¬ 6 ≤ (S 29 4) → ∀ v10 : Int32, ∀ S10 : Nat → Nat → Int32, TF S S10 → TP b len S10 (pz_sort b len true s) → ((pz_sort b len true s).1 = 0 → v10 = pz_kind (pz_by b len s.2)) → ∀ v11 : Int32, ∀ S11 : Nat → Nat → Int32, TF S10 S11 → TP b len S11 (pz_num b len 1 9 (pz_sort b len true s)) → ((pz_num b len 1 9 (pz_sort b len true s)).1 = 0 → v11 = pz_v b len (pz_sort b len true s).2) → ∀ S12 : Nat → Nat → Int32, TF S11 S12 → TP b len S12 (pz_sign b len 44 (pz_num b len 1 9 (pz_sort b len true s))) → ∀ v13 : Int32, ∀ S13 : Nat → Nat → Int32, TF S12 S13 → TP b len S13 (pz_num b len 1 4 (pz_sign b len 44 (pz_num b len 1 9 (pz_sort b len true s)))) → ((pz_num b len 1 4 (pz_sign b len 44 (pz_num b len 1 9 (pz_sort b len true s)))).1 = 0 → v13 = pz_v b len (pz_sign b len 44 (pz_num b len 1 9 (pz_sort b len true s))).2) → ∀ S14 : Nat → Nat → Int32, TF S13 S14 → TP b len S14 (pz_sign b len 59 (pz_num b len 1 4 (pz_sign b len 44 (pz_num b len 1 9 (pz_sort b len true s))))) → (S14 18 1) = 0 → (S14 29 4) < 0 → Q none (am_hh X S14 L)) (k7 : ¬ 6 ≤ (S 29 4) → ∀ v10 : Int32, ∀ S10 : Nat → Nat → Int32, TF S S10 → TP b len S10 (pz_sort b len true s) → ((pz_sort b len true s).1 = 0 → v10 = pz_kind (pz_by b len s.2)) → ∀ v11 : Int32, ∀ S11 : Nat → Nat → Int32, TF S10 S11 → TP b len S11 (pz_num b len 1 9 (pz_sort b len true s)) → ((pz_num b len 1 9 (pz_sort b len true s)).1 = 0 → v11 = pz_v b len (pz_sort b len true s).2) → ∀ S12 : Nat → Nat → Int32, TF S11 S12 → TP b len S12 (pz_sign b len 44 (pz_num b len 1 9 (pz_sort b len true s))) → ∀ v13 : Int32, ∀ S13 : Nat → Nat → Int32, TF S12 S13 → TP b len S13 (pz_num b len 1 4 (pz_sign b len 44 (pz_num b len 1 9 (pz_sort b len true s)))) → ((pz_num b len 1 4 (pz_sign b len 44 (pz_num b len 1 9 (pz_sort b len true s)))).1 = 0 → v13 = pz_v b len (pz_sign b len 44 (pz_num b len 1 9 (pz_sort b len true s))).2) → ∀ S14 : Nat → Nat → Int32, TF S13 S14 → TP b len S14 (pz_sign b len 59 (pz_num b len 1 4 (pz_sign b len 44 (pz_num b len 1 9 (pz_sort b len true s))))) → (S14 18 1) = 0 → ¬ (S14 29 4) < 0 → (S14 29 4) < 6 → Q none (am_hh X (am_ovl (am_u (am_u (am_u (am_u S14 31 p v10) 32 p v11) 33 p v13) 29 4 ((S14 29 4) + 1)) 29 (w_ca (am_sub (am_u (am_u (am_u (am_u S14 31 p v10) 32 p v11) 33 p v13) 29 4 ((S14 29 4) + 1)) 29) p)) L)) (k8 : ¬ 6 ≤ (S 29 4) → ∀ v10 : Int32, ∀ S10 : Nat → Nat → Int32, TF S S10 → TP b len S10 (pz_sort b len true s) → ((pz_sort b len true s).1 = 0 → v10 = pz_kind (pz_by b len s.2)) → ∀ v11 : Int32, ∀ S11 : Nat → Nat → Int32, TF S10 S11 → TP b len S11 (pz_num b len 1 9 (pz_sort b len true s)) → ((pz_num b len 1 9 (pz_sort b len true s)).1 = 0 → v11 = pz_v b len (pz_sort b len true s).2) → ∀ S12 : Nat → Nat → Int32, TF S11 S12 → TP b len S12 (pz_sign b len 44 (pz_num b len 1 9 (pz_sort b len true s))) → ∀ v13 : Int32, ∀ S13 : Nat → Nat → Int32, TF S12 S13 → TP b len S13 (pz_num b len 1 4 (pz_sign b len 44 (pz_num b len 1 9 (pz_sort b len true s)))) → ((pz_num b len 1 4 (pz_sign b len 44 (pz_num b len 1 9 (pz_sort b len true s)))).1 = 0 → v13 = pz_v b len (pz_sign b len 44 (pz_num b len 1 9 (pz_sort b len true s))).2) → ∀ S14 : Nat → Nat → Int32, TF S13 S14 → TP b len S14 (pz_sign b len 59 (pz_num b len 1 4 (pz_sign b len 44 (pz_num b len 1 9 (pz_sort b len true s))))) → (S14 18 1) = 0 → ¬ (S14 29 4) < 0 → ¬ (S14 29 4) < 6 → Q none (am_hh X S14 L)) : am_mt (d + 5) 37 [.ref 18, .ref 29] (am_hh X S L) Q := by
  refine ax_in (ls := [some (.ref 18), some (.ref 29), none, none, none]) rfl ?_
  refine ax_s (pc' := 1) (st' := [.ref 18]) rfl rfl rfl rfl ?_
  refine ax_s (pc' := 2) (st' := [.ref 29, .ref 18]) rfl rfl rfl rfl ?_
  refine ax_get rfl (hh_29 _ _ _) rfl rfl rfl ?_
  show am_ex (d + 5) 37 5 [some (.ref 18), some (.ref 29), none, none, none] [.int (S 29 4), .ref 18] (am_hh X S L) _
  refine ax_s (pc' := 7) (st' := [.int 6, .int (S 29 4), .ref 18]) rfl rfl rfl rfl ?_
  refine ax_cmp_ge rfl (fun c1 => ?_) (fun c1 => ?_)
  · refine ax_s (pc' := 15) (st' := [.int 0, .ref 18]) rfl rfl rfl rfl ?_
    refine ax_call (vs := [.ref 18, .int 0]) (rr := []) rfl rfl rfl ?_
    refine kt_sort hT (r := false) rfl (fun v2 S2 t2 u2 z2 => ?_)
    show am_ex (d + 5) 37 18 [some (.ref 18), some (.ref 29), none, none, none] [.int v2] (am_hh X S2 L) _
    refine ax_s (pc' := 19) (ls' := [some (.ref 18), some (.ref 29), some (.int v2), none, none]) (st' := []) rfl rfl rfl rfl ?_
    refine ax_s (pc' := 20) (st' := [.ref 18]) rfl rfl rfl rfl ?_
    refine ax_s (pc' := 21) (st' := [.int 1, .ref 18]) rfl rfl rfl rfl ?_
    refine ax_s (pc' := 23) (st' := [.int 9, .int 1, .ref 18]) rfl rfl rfl rfl ?_
    refine ax_call (vs := [.ref 18, .int 1, .int 9]) (rr := []) rfl rfl rfl ?_
    refine kt_num u2 (fun v3 S3 t3 u3 z3 => ?_)
    show am_ex (d + 5) 37 26 [some (.ref 18), some (.ref 29), some (.int v2), none, none] [.int v3] (am_hh X S3 L) _
    refine ax_s (pc' := 27) (ls' := [some (.ref 18), some (.ref 29), some (.int v2), some (.int v3), none]) (st' := []) rfl rfl rfl rfl ?_
    refine ax_s (pc' := 28) (st' := [.ref 18]) rfl rfl rfl rfl ?_
    refine ax_s (pc' := 30) (st' := [.int 44, .ref 18]) rfl rfl rfl rfl ?_
    refine ax_call (vs := [.ref 18, .int 44]) (rr := []) rfl rfl rfl ?_
    refine kt_sign u3 (by decide) (fun S4 t4 u4 => ?_)
    show am_ex (d + 5) 37 33 [some (.ref 18), some (.ref 29), some (.int v2), some (.int v3), none] [] (am_hh X S4 L) _
    refine ax_s (pc' := 34) (st' := [.ref 18]) rfl rfl rfl rfl ?_
    refine ax_s (pc' := 35) (st' := [.int 1, .ref 18]) rfl rfl rfl rfl ?_
    refine ax_s (pc' := 36) (st' := [.int 4, .int 1, .ref 18]) rfl rfl rfl rfl ?_
    refine ax_call (vs := [.ref 18, .int 1, .int 4]) (rr := []) rfl rfl rfl ?_
    refine kt_num u4 (fun v5 S5 t5 u5 z5 => ?_)
    show am_ex (d + 5) 37 39 [some (.ref 18), some (.ref 29), some (.int v2), some (.int v3), none] [.int v5] (am_hh X S5 L) _
    refine ax_s (pc' := 41) (ls' := [some (.ref 18), some (.ref 29), some (.int v2), some (.int v3), some (.int v5)]) (st' := []) rfl rfl rfl rfl ?_
    refine ax_s (pc' := 42) (st' := [.ref 18]) rfl rfl rfl rfl ?_
    refine ax_s (pc' := 44) (st' := [.int 59, .ref 18]) rfl rfl rfl rfl ?_
    refine ax_call (vs := [.ref 18, .int 59]) (rr := []) rfl rfl rfl ?_
    refine kt_sign u5 (by decide) (fun S6 t6 u6 => ?_)
    show am_ex (d + 5) 37 47 [some (.ref 18), some (.ref 29), some (.int v2), some (.int v3), some (.int v5)] [] (am_hh X S6 L) _
    refine ax_s (pc' := 48) (st' := [.ref 18]) rfl rfl rfl rfl ?_
    refine ax_get rfl (hh_18 _ _ _) rfl rfl rfl ?_
    show am_ex (d + 5) 37 51 [some (.ref 18), some (.ref 29), some (.int v2), some (.int v3), some (.int v5)] [.int (S6 18 1)] (am_hh X S6 L) _
    refine ax_if_ne rfl (fun c7 => ?_) (fun c7 => ?_)
    · refine ax_r rfl rfl rfl ?_
      exact k1 c1 v2 S2 t2 u2 z2 v3 S3 t3 u3 z3 S4 t4 u4 v5 S5 t5 u5 z5 S6 t6 u6 c7
    · refine ax_s (pc' := 55) (st' := [.ref 29]) rfl rfl rfl rfl ?_
      refine ax_s (pc' := 56) (st' := [.int v2, .ref 29]) rfl rfl rfl rfl ?_
      refine ax_s (pc' := 57) (st' := [.int v3, .int v2, .ref 29]) rfl rfl rfl rfl ?_
      refine ax_s (pc' := 59) (st' := [.int v5, .int v3, .int v2, .ref 29]) rfl rfl rfl rfl ?_
      refine ax_call (vs := [.ref 29, .int v2, .int v3, .int v5]) (rr := []) rfl rfl rfl ?_
      refine ax_in (ls := [some (.ref 29), some (.int v2), some (.int v3), some (.int v5)]) rfl ?_
      refine ax_s (pc' := 1) (st' := [.ref 29]) rfl rfl rfl rfl ?_
      refine ax_get rfl (hh_29 _ _ _) rfl rfl rfl ?_
      show am_ex (d + 4) 40 4 [some (.ref 29), some (.int v2), some (.int v3), some (.int v5)] [.int (S6 29 4)] (am_hh X S6 L) _
      refine ax_if_lt rfl (fun c8 => ?_) (fun c8 => ?_)
      · refine ax_r rfl rfl rfl ?_
        show am_ex (d + 5) 37 62 [some (.ref 18), some (.ref 29), some (.int v2), some (.int v3), some (.int v5)] [] (am_hh X S6 L) _
        refine ax_r rfl rfl rfl ?_
        exact k2 c1 v2 S2 t2 u2 z2 v3 S3 t3 u3 z3 S4 t4 u4 v5 S5 t5 u5 z5 S6 t6 u6 c7 c8
      · refine ax_s (pc' := 8) (st' := [.ref 29]) rfl rfl rfl rfl ?_
        refine ax_get rfl (hh_29 _ _ _) rfl rfl rfl ?_
        show am_ex (d + 4) 40 11 [some (.ref 29), some (.int v2), some (.int v3), some (.int v5)] [.int (S6 29 4)] (am_hh X S6 L) _
        refine ax_s (pc' := 13) (st' := [.int 6, .int (S6 29 4)]) rfl rfl rfl rfl ?_
        refine ax_cmp_lt rfl (fun c9 => ?_) (fun c9 => ?_)
        · refine ax_s (pc' := 18) (st' := [.ref 29]) rfl rfl rfl rfl ?_
          refine ax_get rfl (hh_29 _ _ _) rfl rfl rfl ?_
          show am_ex (d + 4) 40 21 [some (.ref 29), some (.int v2), some (.int v3), some (.int v5)] [.ref 31] (am_hh X S6 L) _
          refine ax_s (pc' := 22) (st' := [.ref 29, .ref 31]) rfl rfl rfl rfl ?_
          refine ax_get rfl (hh_29 _ _ _) rfl rfl rfl ?_
          show am_ex (d + 4) 40 25 [some (.ref 29), some (.int v2), some (.int v3), some (.int v5)] [.int (S6 29 4), .ref 31] (am_hh X S6 L) _
          refine ax_s (pc' := 26) (st' := [.int v2, .int (S6 29 4), .ref 31]) rfl rfl rfl rfl ?_
          refine ax_ast (j := p) rfl (hh_31 _ _ _) rfl (tf_p t6 (tf_p t5 (tf_p t4 (tf_p t3 (tf_p t2 hp))))) (x1 c1 v2 S2 t2 u2 z2 v3 S3 t3 u3 z3 S4 t4 u4 v5 S5 t5 u5 z5 S6 t6 u6 c7 c8 c9) (by decide) (am_hh_set _ _ _ 31 p _ rfl) ?_
          refine ax_s (pc' := 28) (st' := [.ref 29]) rfl rfl rfl rfl ?_
          refine ax_get rfl (hh_29 _ _ _) rfl rfl rfl ?_
          show am_ex (d + 4) 40 31 [some (.ref 29), some (.int v2), some (.int v3), some (.int v5)] [.ref 32] (am_hh X (am_u S6 31 p v2) L) _
          refine ax_s (pc' := 32) (st' := [.ref 29, .ref 32]) rfl rfl rfl rfl ?_
          refine ax_get rfl (hh_29 _ _ _) rfl rfl rfl ?_
          show am_ex (d + 4) 40 35 [some (.ref 29), some (.int v2), some (.int v3), some (.int v5)] [.int (S6 29 4), .ref 32] (am_hh X (am_u S6 31 p v2) L) _
          refine ax_s (pc' := 36) (st' := [.int v3, .int (S6 29 4), .ref 32]) rfl rfl rfl rfl ?_
          refine ax_ast (j := p) rfl (hh_32 _ _ _) rfl (tf_p t6 (tf_p t5 (tf_p t4 (tf_p t3 (tf_p t2 hp))))) (x1 c1 v2 S2 t2 u2 z2 v3 S3 t3 u3 z3 S4 t4 u4 v5 S5 t5 u5 z5 S6 t6 u6 c7 c8 c9) (by decide) (am_hh_set _ _ _ 32 p _ rfl) ?_
          refine ax_s (pc' := 38) (st' := [.ref 29]) rfl rfl rfl rfl ?_
          refine ax_get rfl (hh_29 _ _ _) rfl rfl rfl ?_
          show am_ex (d + 4) 40 41 [some (.ref 29), some (.int v2), some (.int v3), some (.int v5)] [.ref 33] (am_hh X (am_u (am_u S6 31 p v2) 32 p v3) L) _
          refine ax_s (pc' := 42) (st' := [.ref 29, .ref 33]) rfl rfl rfl rfl ?_
          refine ax_get rfl (hh_29 _ _ _) rfl rfl rfl ?_
          show am_ex (d + 4) 40 45 [some (.ref 29), some (.int v2), some (.int v3), some (.int v5)] [.int (S6 29 4), .ref 33] (am_hh X (am_u (am_u S6 31 p v2) 32 p v3) L) _
          refine ax_s (pc' := 46) (st' := [.int v5, .int (S6 29 4), .ref 33]) rfl rfl rfl rfl ?_
          refine ax_ast (j := p) rfl (hh_33 _ _ _) rfl (tf_p t6 (tf_p t5 (tf_p t4 (tf_p t3 (tf_p t2 hp))))) (x1 c1 v2 S2 t2 u2 z2 v3 S3 t3 u3 z3 S4 t4 u4 v5 S5 t5 u5 z5 S6 t6 u6 c7 c8 c9) (by decide) (am_hh_set _ _ _ 33 p _ rfl) ?_
          refine ax_s (pc' := 48) (st' := [.ref 29]) rfl rfl rfl rfl ?_
          refine ax_s (pc' := 49) (st' := [.ref 29, .ref 29]) rfl rfl rfl rfl ?_
          refine ax_get rfl (hh_29 _ _ _) rfl rfl rfl ?_
          show am_ex (d + 4) 40 52 [some (.ref 29), some (.int v2), some (.int v3), some (.int v5)] [.int (S6 29 4), .ref 29] (am_hh X (am_u (am_u (am_u S6 31 p v2) 32 p v3) 33 p v5) L) _
          refine ax_s (pc' := 53) (st' := [.int 1, .int (S6 29 4), .ref 29]) rfl rfl rfl rfl ?_
          refine ax_s (pc' := 54) (st' := [.int ((S6 29 4) + 1), .ref 29]) rfl rfl rfl rfl ?_
          refine ax_put rfl (hh_29 _ _ _) rfl rfl (show 4 + 1 ≤ _ from Nat.le_of_ble_eq_true rfl) rfl (am_hh_set _ _ _ 29 4 _ rfl) ?_
          refine ax_s (pc' := 58) (st' := [.ref 29]) rfl rfl rfl rfl ?_
          refine ax_s (pc' := 59) (st' := [.ref 29, .ref 29]) rfl rfl rfl rfl ?_
          refine ax_get rfl (hh_29 _ _ _) rfl rfl rfl ?_
          show am_ex (d + 4) 40 62 [some (.ref 29), some (.int v2), some (.int v3), some (.int v5)] [.int ((S6 29 4) + 1), .ref 29] (am_hh X (am_u (am_u (am_u (am_u S6 31 p v2) 32 p v3) 33 p v5) 29 4 ((S6 29 4) + 1)) L) _
          refine ax_s (pc' := 63) (st' := [.int 1, .int ((S6 29 4) + 1), .ref 29]) rfl rfl rfl rfl ?_
          refine ax_s (pc' := 64) (st' := [.int (((S6 29 4) + 1) - 1), .ref 29]) rfl rfl rfl rfl ?_
          refine ax_call (vs := [.ref 29, .int (((S6 29 4) + 1) - 1)]) (rr := []) rfl rfl rfl ?_
          refine kw (am_hh_sub isW29 X (am_u (am_u (am_u (am_u S6 31 p v2) 32 p v3) 33 p v5) 29 4 ((S6 29 4) + 1)) L) (am_hh_ov isW29 X (am_u (am_u (am_u (am_u S6 31 p v2) 32 p v3) 33 p v5) 29 4 ((S6 29 4) + 1)) L _) (fun _ => ct_comeAgain (am_isW_k isW29 X (am_u (am_u (am_u (am_u S6 31 p v2) 32 p v3) 33 p v5) 29 4 ((S6 29 4) + 1)) L) (tf_q (tf_p t6 (tf_p t5 (tf_p t4 (tf_p t3 (tf_p t2 hp)))))) (x1 c1 v2 S2 t2 u2 z2 v3 S3 t3 u3 z3 S4 t4 u4 v5 S5 t5 u5 z5 S6 t6 u6 c7 c8 c9)) ?_
          show am_ex (d + 4) 40 67 [some (.ref 29), some (.int v2), some (.int v3), some (.int v5)] [] (am_hh X (am_ovl (am_u (am_u (am_u (am_u S6 31 p v2) 32 p v3) 33 p v5) 29 4 ((S6 29 4) + 1)) 29 (w_ca (am_sub (am_u (am_u (am_u (am_u S6 31 p v2) 32 p v3) 33 p v5) 29 4 ((S6 29 4) + 1)) 29) p)) L) _
          refine ax_r rfl rfl rfl ?_
          show am_ex (d + 5) 37 62 [some (.ref 18), some (.ref 29), some (.int v2), some (.int v3), some (.int v5)] [] (am_hh X (am_ovl (am_u (am_u (am_u (am_u S6 31 p v2) 32 p v3) 33 p v5) 29 4 ((S6 29 4) + 1)) 29 (w_ca (am_sub (am_u (am_u (am_u (am_u S6 31 p v2) 32 p v3) 33 p v5) 29 4 ((S6 29 4) + 1)) 29) p)) L) _
          refine ax_r rfl rfl rfl ?_
          exact k3 c1 v2 S2 t2 u2 z2 v3 S3 t3 u3 z3 S4 t4 u4 v5 S5 t5 u5 z5 S6 t6 u6 c7 c8 c9
        · refine ax_r rfl rfl rfl ?_
          show am_ex (d + 5) 37 62 [some (.ref 18), some (.ref 29), some (.int v2), some (.int v3), some (.int v5)] [] (am_hh X S6 L) _
          refine ax_r rfl rfl rfl ?_
          exact k4 c1 v2 S2 t2 u2 z2 v3 S3 t3 u3 z3 S4 t4 u4 v5 S5 t5 u5 z5 S6 t6 u6 c7 c8 c9
  · refine ax_s (pc' := 11) (st' := [.int 1, .ref 18]) rfl rfl rfl rfl ?_
    refine ax_s (pc' := 15) (st' := [.int 1, .ref 18]) rfl rfl rfl rfl ?_
    refine ax_call (vs := [.ref 18, .int 1]) (rr := []) rfl rfl rfl ?_
    refine kt_sort hT (r := true) rfl (fun v10 S10 t10 u10 z10 => ?_)
    show am_ex (d + 5) 37 18 [some (.ref 18), some (.ref 29), none, none, none] [.int v10] (am_hh X S10 L) _
    refine ax_s (pc' := 19) (ls' := [some (.ref 18), some (.ref 29), some (.int v10), none, none]) (st' := []) rfl rfl rfl rfl ?_
    refine ax_s (pc' := 20) (st' := [.ref 18]) rfl rfl rfl rfl ?_
    refine ax_s (pc' := 21) (st' := [.int 1, .ref 18]) rfl rfl rfl rfl ?_
    refine ax_s (pc' := 23) (st' := [.int 9, .int 1, .ref 18]) rfl rfl rfl rfl ?_
    refine ax_call (vs := [.ref 18, .int 1, .int 9]) (rr := []) rfl rfl rfl ?_
    refine kt_num u10 (fun v11 S11 t11 u11 z11 => ?_)
    show am_ex (d + 5) 37 26 [some (.ref 18), some (.ref 29), some (.int v10), none, none] [.int v11] (am_hh X S11 L) _
    refine ax_s (pc' := 27) (ls' := [some (.ref 18), some (.ref 29), some (.int v10), some (.int v11), none]) (st' := []) rfl rfl rfl rfl ?_
    refine ax_s (pc' := 28) (st' := [.ref 18]) rfl rfl rfl rfl ?_
    refine ax_s (pc' := 30) (st' := [.int 44, .ref 18]) rfl rfl rfl rfl ?_
    refine ax_call (vs := [.ref 18, .int 44]) (rr := []) rfl rfl rfl ?_
    refine kt_sign u11 (by decide) (fun S12 t12 u12 => ?_)
    show am_ex (d + 5) 37 33 [some (.ref 18), some (.ref 29), some (.int v10), some (.int v11), none] [] (am_hh X S12 L) _
    refine ax_s (pc' := 34) (st' := [.ref 18]) rfl rfl rfl rfl ?_
    refine ax_s (pc' := 35) (st' := [.int 1, .ref 18]) rfl rfl rfl rfl ?_
    refine ax_s (pc' := 36) (st' := [.int 4, .int 1, .ref 18]) rfl rfl rfl rfl ?_
    refine ax_call (vs := [.ref 18, .int 1, .int 4]) (rr := []) rfl rfl rfl ?_
    refine kt_num u12 (fun v13 S13 t13 u13 z13 => ?_)
    show am_ex (d + 5) 37 39 [some (.ref 18), some (.ref 29), some (.int v10), some (.int v11), none] [.int v13] (am_hh X S13 L) _
    refine ax_s (pc' := 41) (ls' := [some (.ref 18), some (.ref 29), some (.int v10), some (.int v11), some (.int v13)]) (st' := []) rfl rfl rfl rfl ?_
    refine ax_s (pc' := 42) (st' := [.ref 18]) rfl rfl rfl rfl ?_
    refine ax_s (pc' := 44) (st' := [.int 59, .ref 18]) rfl rfl rfl rfl ?_
    refine ax_call (vs := [.ref 18, .int 59]) (rr := []) rfl rfl rfl ?_
    refine kt_sign u13 (by decide) (fun S14 t14 u14 => ?_)
    show am_ex (d + 5) 37 47 [some (.ref 18), some (.ref 29), some (.int v10), some (.int v11), some (.int v13)] [] (am_hh X S14 L) _
    refine ax_s (pc' := 48) (st' := [.ref 18]) rfl rfl rfl rfl ?_
    refine ax_get rfl (hh_18 _ _ _) rfl rfl rfl ?_
    show am_ex (d + 5) 37 51 [some (.ref 18), some (.ref 29), some (.int v10), some (.int v11), some (.int v13)] [.int (S14 18 1)] (am_hh X S14 L) _
    refine ax_if_ne rfl (fun c15 => ?_) (fun c15 => ?_)
    · refine ax_r rfl rfl rfl ?_
      exact k5 c1 v10 S10 t10 u10 z10 v11 S11 t11 u11 z11 S12 t12 u12 v13 S13 t13 u13 z13 S14 t14 u14 c15
    · refine ax_s (pc' := 55) (st' := [.ref 29]) rfl rfl rfl rfl ?_
      refine ax_s (pc' := 56) (st' := [.int v10, .ref 29]) rfl rfl rfl rfl ?_
      refine ax_s (pc' := 57) (st' := [.int v11, .int v10, .ref 29]) rfl rfl rfl rfl ?_
      refine ax_s (pc' := 59) (st' := [.int v13, .int v11, .int v10, .ref 29]) rfl rfl rfl rfl ?_
      refine ax_call (vs := [.ref 29, .int v10, .int v11, .int v13]) (rr := []) rfl rfl rfl ?_
      refine ax_in (ls := [some (.ref 29), some (.int v10), some (.int v11), some (.int v13)]) rfl ?_
      refine ax_s (pc' := 1) (st' := [.ref 29]) rfl rfl rfl rfl ?_
      refine ax_get rfl (hh_29 _ _ _) rfl rfl rfl ?_
      show am_ex (d + 4) 40 4 [some (.ref 29), some (.int v10), some (.int v11), some (.int v13)] [.int (S14 29 4)] (am_hh X S14 L) _
      refine ax_if_lt rfl (fun c16 => ?_) (fun c16 => ?_)
      · refine ax_r rfl rfl rfl ?_
        show am_ex (d + 5) 37 62 [some (.ref 18), some (.ref 29), some (.int v10), some (.int v11), some (.int v13)] [] (am_hh X S14 L) _
        refine ax_r rfl rfl rfl ?_
        exact k6 c1 v10 S10 t10 u10 z10 v11 S11 t11 u11 z11 S12 t12 u12 v13 S13 t13 u13 z13 S14 t14 u14 c15 c16
      · refine ax_s (pc' := 8) (st' := [.ref 29]) rfl rfl rfl rfl ?_
        refine ax_get rfl (hh_29 _ _ _) rfl rfl rfl ?_
        show am_ex (d + 4) 40 11 [some (.ref 29), some (.int v10), some (.int v11), some (.int v13)] [.int (S14 29 4)] (am_hh X S14 L) _
        refine ax_s (pc' := 13) (st' := [.int 6, .int (S14 29 4)]) rfl rfl rfl rfl ?_
        refine ax_cmp_lt rfl (fun c17 => ?_) (fun c17 => ?_)
        · refine ax_s (pc' := 18) (st' := [.ref 29]) rfl rfl rfl rfl ?_
          refine ax_get rfl (hh_29 _ _ _) rfl rfl rfl ?_
          show am_ex (d + 4) 40 21 [some (.ref 29), some (.int v10), some (.int v11), some (.int v13)] [.ref 31] (am_hh X S14 L) _
          refine ax_s (pc' := 22) (st' := [.ref 29, .ref 31]) rfl rfl rfl rfl ?_
          refine ax_get rfl (hh_29 _ _ _) rfl rfl rfl ?_
          show am_ex (d + 4) 40 25 [some (.ref 29), some (.int v10), some (.int v11), some (.int v13)] [.int (S14 29 4), .ref 31] (am_hh X S14 L) _
          refine ax_s (pc' := 26) (st' := [.int v10, .int (S14 29 4), .ref 31]) rfl rfl rfl rfl ?_
          refine ax_ast (j := p) rfl (hh_31 _ _ _) rfl (tf_p t14 (tf_p t13 (tf_p t12 (tf_p t11 (tf_p t10 hp))))) (x2 c1 v10 S10 t10 u10 z10 v11 S11 t11 u11 z11 S12 t12 u12 v13 S13 t13 u13 z13 S14 t14 u14 c15 c16 c17) (by decide) (am_hh_set _ _ _ 31 p _ rfl) ?_
          refine ax_s (pc' := 28) (st' := [.ref 29]) rfl rfl rfl rfl ?_
          refine ax_get rfl (hh_29 _ _ _) rfl rfl rfl ?_
          show am_ex (d + 4) 40 31 [some (.ref 29), some (.int v10), some (.int v11), some (.int v13)] [.ref 32] (am_hh X (am_u S14 31 p v10) L) _
          refine ax_s (pc' := 32) (st' := [.ref 29, .ref 32]) rfl rfl rfl rfl ?_
          refine ax_get rfl (hh_29 _ _ _) rfl rfl rfl ?_
          show am_ex (d + 4) 40 35 [some (.ref 29), some (.int v10), some (.int v11), some (.int v13)] [.int (S14 29 4), .ref 32] (am_hh X (am_u S14 31 p v10) L) _
          refine ax_s (pc' := 36) (st' := [.int v11, .int (S14 29 4), .ref 32]) rfl rfl rfl rfl ?_
          refine ax_ast (j := p) rfl (hh_32 _ _ _) rfl (tf_p t14 (tf_p t13 (tf_p t12 (tf_p t11 (tf_p t10 hp))))) (x2 c1 v10 S10 t10 u10 z10 v11 S11 t11 u11 z11 S12 t12 u12 v13 S13 t13 u13 z13 S14 t14 u14 c15 c16 c17) (by decide) (am_hh_set _ _ _ 32 p _ rfl) ?_
          refine ax_s (pc' := 38) (st' := [.ref 29]) rfl rfl rfl rfl ?_
          refine ax_get rfl (hh_29 _ _ _) rfl rfl rfl ?_
          show am_ex (d + 4) 40 41 [some (.ref 29), some (.int v10), some (.int v11), some (.int v13)] [.ref 33] (am_hh X (am_u (am_u S14 31 p v10) 32 p v11) L) _
          refine ax_s (pc' := 42) (st' := [.ref 29, .ref 33]) rfl rfl rfl rfl ?_
          refine ax_get rfl (hh_29 _ _ _) rfl rfl rfl ?_
          show am_ex (d + 4) 40 45 [some (.ref 29), some (.int v10), some (.int v11), some (.int v13)] [.int (S14 29 4), .ref 33] (am_hh X (am_u (am_u S14 31 p v10) 32 p v11) L) _
          refine ax_s (pc' := 46) (st' := [.int v13, .int (S14 29 4), .ref 33]) rfl rfl rfl rfl ?_
          refine ax_ast (j := p) rfl (hh_33 _ _ _) rfl (tf_p t14 (tf_p t13 (tf_p t12 (tf_p t11 (tf_p t10 hp))))) (x2 c1 v10 S10 t10 u10 z10 v11 S11 t11 u11 z11 S12 t12 u12 v13 S13 t13 u13 z13 S14 t14 u14 c15 c16 c17) (by decide) (am_hh_set _ _ _ 33 p _ rfl) ?_
          refine ax_s (pc' := 48) (st' := [.ref 29]) rfl rfl rfl rfl ?_
          refine ax_s (pc' := 49) (st' := [.ref 29, .ref 29]) rfl rfl rfl rfl ?_
          refine ax_get rfl (hh_29 _ _ _) rfl rfl rfl ?_
          show am_ex (d + 4) 40 52 [some (.ref 29), some (.int v10), some (.int v11), some (.int v13)] [.int (S14 29 4), .ref 29] (am_hh X (am_u (am_u (am_u S14 31 p v10) 32 p v11) 33 p v13) L) _
          refine ax_s (pc' := 53) (st' := [.int 1, .int (S14 29 4), .ref 29]) rfl rfl rfl rfl ?_
          refine ax_s (pc' := 54) (st' := [.int ((S14 29 4) + 1), .ref 29]) rfl rfl rfl rfl ?_
          refine ax_put rfl (hh_29 _ _ _) rfl rfl (show 4 + 1 ≤ _ from Nat.le_of_ble_eq_true rfl) rfl (am_hh_set _ _ _ 29 4 _ rfl) ?_
          refine ax_s (pc' := 58) (st' := [.ref 29]) rfl rfl rfl rfl ?_
          refine ax_s (pc' := 59) (st' := [.ref 29, .ref 29]) rfl rfl rfl rfl ?_
          refine ax_get rfl (hh_29 _ _ _) rfl rfl rfl ?_
          show am_ex (d + 4) 40 62 [some (.ref 29), some (.int v10), some (.int v11), some (.int v13)] [.int ((S14 29 4) + 1), .ref 29] (am_hh X (am_u (am_u (am_u (am_u S14 31 p v10) 32 p v11) 33 p v13) 29 4 ((S14 29 4) + 1)) L) _
          refine ax_s (pc' := 63) (st' := [.int 1, .int ((S14 29 4) + 1), .ref 29]) rfl rfl rfl rfl ?_
          refine ax_s (pc' := 64) (st' := [.int (((S14 29 4) + 1) - 1), .ref 29]) rfl rfl rfl rfl ?_
          refine ax_call (vs := [.ref 29, .int (((S14 29 4) + 1) - 1)]) (rr := []) rfl rfl rfl ?_
          refine kw (am_hh_sub isW29 X (am_u (am_u (am_u (am_u S14 31 p v10) 32 p v11) 33 p v13) 29 4 ((S14 29 4) + 1)) L) (am_hh_ov isW29 X (am_u (am_u (am_u (am_u S14 31 p v10) 32 p v11) 33 p v13) 29 4 ((S14 29 4) + 1)) L _) (fun _ => ct_comeAgain (am_isW_k isW29 X (am_u (am_u (am_u (am_u S14 31 p v10) 32 p v11) 33 p v13) 29 4 ((S14 29 4) + 1)) L) (tf_q (tf_p t14 (tf_p t13 (tf_p t12 (tf_p t11 (tf_p t10 hp)))))) (x2 c1 v10 S10 t10 u10 z10 v11 S11 t11 u11 z11 S12 t12 u12 v13 S13 t13 u13 z13 S14 t14 u14 c15 c16 c17)) ?_
          show am_ex (d + 4) 40 67 [some (.ref 29), some (.int v10), some (.int v11), some (.int v13)] [] (am_hh X (am_ovl (am_u (am_u (am_u (am_u S14 31 p v10) 32 p v11) 33 p v13) 29 4 ((S14 29 4) + 1)) 29 (w_ca (am_sub (am_u (am_u (am_u (am_u S14 31 p v10) 32 p v11) 33 p v13) 29 4 ((S14 29 4) + 1)) 29) p)) L) _
          refine ax_r rfl rfl rfl ?_
          show am_ex (d + 5) 37 62 [some (.ref 18), some (.ref 29), some (.int v10), some (.int v11), some (.int v13)] [] (am_hh X (am_ovl (am_u (am_u (am_u (am_u S14 31 p v10) 32 p v11) 33 p v13) 29 4 ((S14 29 4) + 1)) 29 (w_ca (am_sub (am_u (am_u (am_u (am_u S14 31 p v10) 32 p v11) 33 p v13) 29 4 ((S14 29 4) + 1)) 29) p)) L) _
          refine ax_r rfl rfl rfl ?_
          exact k7 c1 v10 S10 t10 u10 z10 v11 S11 t11 u11 z11 S12 t12 u12 v13 S13 t13 u13 z13 S14 t14 u14 c15 c16 c17
        · refine ax_r rfl rfl rfl ?_
          show am_ex (d + 5) 37 62 [some (.ref 18), some (.ref 29), some (.int v10), some (.int v11), some (.int v13)] [] (am_hh X S14 L) _
          refine ax_r rfl rfl rfl ?_
          exact k8 c1 v10 S10 t10 u10 z10 v11 S11 t11 u11 z11 S12 t12 u12 v13 S13 t13 u13 z13 S14 t14 u14 c15 c16 c17
theorem wp_readParty0 {d : Nat} {X : Nat × (Nat → Int32)} {S : Nat → Nat → Int32} {L : Nat → Int64} {b : Nat → Int32} {len : Nat} {s : Int32 × Nat} {Q : Option Value → am_H → Prop} (hT : TP b len S s)  (x1 : 6 ≤ (S 29 4) → ∀ v2 : Int32, ∀ S2 : Nat → Nat → Int32, TF S S2 → TP b len S2 (pz_sort b len false s) → ((pz_sort b len false s).1 = 0 → v2 = pz_kind (pz_by b len s.2)) → ∀ v3 : Int32, ∀ S3 : Nat → Nat → Int32, TF S2 S3 → TP b len S3 (pz_num b len 1 9 (pz_sort b len false s)) → ((pz_num b len 1 9 (pz_sort b len false s)).1 = 0 → v3 = pz_v b len (pz_sort b len false s).2) → ∀ S4 : Nat → Nat → Int32, TF S3 S4 → TP b len S4 (pz_sign b len 44 (pz_num b len 1 9 (pz_sort b len false s))) → ∀ v5 : Int32, ∀ S5 : Nat → Nat → Int32, TF S4 S5 → TP b len S5 (pz_num b len 1 4 (pz_sign b len 44 (pz_num b len 1 9 (pz_sort b len false s)))) → ((pz_num b len 1 4 (pz_sign b len 44 (pz_num b len 1 9 (pz_sort b len false s)))).1 = 0 → v5 = pz_v b len (pz_sign b len 44 (pz_num b len 1 9 (pz_sort b len false s))).2) → ∀ S6 : Nat → Nat → Int32, TF S5 S6 → TP b len S6 (pz_sign b len 59 (pz_num b len 1 4 (pz_sign b len 44 (pz_num b len 1 9 (pz_sort b len false s))))) → (S6 18 1) = 0 → ¬ (S6 29 4) < 0 → (S6 29 4) < 6 → am_ix (S6 29 4) 6 = true) (x2 : 6 ≤ (S 29 4) → ∀ v2 : Int32, ∀ S2 : Nat → Nat → Int32, TF S S2 → TP b len S2 (pz_sort b len false s) → ((pz_sort b len false s).1 = 0 → v2 = pz_kind (pz_by b len s.2)) → ∀ v3 : Int32, ∀ S3 : Nat → Nat → Int32, TF S2 S3 → TP b len S3 (pz_num b len 1 9 (pz_sort b len false s)) → ((pz_num b len 1 9 (pz_sort b len false s)).1 = 0 → v3 = pz_v b len (pz_sort b len false s).2) → ∀ S4 : Nat → Nat → Int32, TF S3 S4 → TP b len S4 (pz_sign b len 44 (pz_num b len 1 9 (pz_sort b len false s))) → ∀ v5 : Int32, ∀ S5 : Nat → Nat → Int32, TF S4 S5 → TP b len S5 (pz_num b len 1 4 (pz_sign b len 44 (pz_num b len 1 9 (pz_sort b len false s)))) → ((pz_num b len 1 4 (pz_sign b len 44 (pz_num b len 1 9 (pz_sort b len false s)))).1 = 0 → v5 = pz_v b len (pz_sign b len 44 (pz_num b len 1 9 (pz_sort b len false s))).2) → ∀ S6 : Nat → Nat → Int32, TF S5 S6 → TP b len S6 (pz_sign b len 59 (pz_num b len 1 4 (pz_sign b len 44 (pz_num b len 1 9 (pz_sort b len false s))))) → (S6 18 1) = 0 → ¬ (S6 29 4) < 0 → (S6 29 4) < 6 → am_ix (((S6 29 4) + 1) - 1) 6 = true) (x3 : ¬ 6 ≤ (S 29 4) → ∀ v10 : Int32, ∀ S10 : Nat → Nat → Int32, TF S S10 → TP b len S10 (pz_sort b len true s) → ((pz_sort b len true s).1 = 0 → v10 = pz_kind (pz_by b len s.2)) → ∀ v11 : Int32, ∀ S11 : Nat → Nat → Int32, TF S10 S11 → TP b len S11 (pz_num b len 1 9 (pz_sort b len true s)) → ((pz_num b len 1 9 (pz_sort b len true s)).1 = 0 → v11 = pz_v b len (pz_sort b len true s).2) → ∀ S12 : Nat → Nat → Int32, TF S11 S12 → TP b len S12 (pz_sign b len 44 (pz_num b len 1 9 (pz_sort b len true s))) → ∀ v13 : Int32, ∀ S13 : Nat → Nat → Int32, TF S12 S13 → TP b len S13 (pz_num b len 1 4 (pz_sign b len 44 (pz_num b len 1 9 (pz_sort b len true s)))) → ((pz_num b len 1 4 (pz_sign b len 44 (pz_num b len 1 9 (pz_sort b len true s)))).1 = 0 → v13 = pz_v b len (pz_sign b len 44 (pz_num b len 1 9 (pz_sort b len true s))).2) → ∀ S14 : Nat → Nat → Int32, TF S13 S14 → TP b len S14 (pz_sign b len 59 (pz_num b len 1 4 (pz_sign b len 44 (pz_num b len 1 9 (pz_sort b len true s))))) → (S14 18 1) = 0 → ¬ (S14 29 4) < 0 → (S14 29 4) < 6 → am_ix (S14 29 4) 6 = true) (x4 : ¬ 6 ≤ (S 29 4) → ∀ v10 : Int32, ∀ S10 : Nat → Nat → Int32, TF S S10 → TP b len S10 (pz_sort b len true s) → ((pz_sort b len true s).1 = 0 → v10 = pz_kind (pz_by b len s.2)) → ∀ v11 : Int32, ∀ S11 : Nat → Nat → Int32, TF S10 S11 → TP b len S11 (pz_num b len 1 9 (pz_sort b len true s)) → ((pz_num b len 1 9 (pz_sort b len true s)).1 = 0 → v11 = pz_v b len (pz_sort b len true s).2) → ∀ S12 : Nat → Nat → Int32, TF S11 S12 → TP b len S12 (pz_sign b len 44 (pz_num b len 1 9 (pz_sort b len true s))) → ∀ v13 : Int32, ∀ S13 : Nat → Nat → Int32, TF S12 S13 → TP b len S13 (pz_num b len 1 4 (pz_sign b len 44 (pz_num b len 1 9 (pz_sort b len true s)))) → ((pz_num b len 1 4 (pz_sign b len 44 (pz_num b len 1 9 (pz_sort b len true s)))).1 = 0 → v13 = pz_v b len (pz_sign b len 44 (pz_num b len 1 9 (pz_sort b len true s))).2) → ∀ S14 : Nat → Nat → Int32, TF S13 S14 → TP b len S14 (pz_sign b len 59 (pz_num b len 1 4 (pz_sign b len 44 (pz_num b len 1 9 (pz_sort b len true s))))) → (S14 18 1) = 0 → ¬ (S14 29 4) < 0 → (S14 29 4) < 6 → am_ix (((S14 29 4) + 1) - 1) 6 = true) (k1 : 6 ≤ (S 29 4) → ∀ v2 : Int32, ∀ S2 : Nat → Nat → Int32, TF S S2 → TP b len S2 (pz_sort b len false s) → ((pz_sort b len false s).1 = 0 → v2 = pz_kind (pz_by b len s.2)) → ∀ v3 : Int32, ∀ S3 : Nat → Nat → Int32, TF S2 S3 → TP b len S3 (pz_num b len 1 9 (pz_sort b len false s)) → ((pz_num b len 1 9 (pz_sort b len false s)).1 = 0 → v3 = pz_v b len (pz_sort b len false s).2) → ∀ S4 : Nat → Nat → Int32, TF S3 S4 → TP b len S4 (pz_sign b len 44 (pz_num b len 1 9 (pz_sort b len false s))) → ∀ v5 : Int32, ∀ S5 : Nat → Nat → Int32, TF S4 S5 → TP b len S5 (pz_num b len 1 4 (pz_sign b len 44 (pz_num b len 1 9 (pz_sort b len false s)))) → ((pz_num b len 1 4 (pz_sign b len 44 (pz_num b len 1 9 (pz_sort b len false s)))).1 = 0 → v5 = pz_v b len (pz_sign b len 44 (pz_num b len 1 9 (pz_sort b len false s))).2) → ∀ S6 : Nat → Nat → Int32, TF S5 S6 → TP b len S6 (pz_sign b len 59 (pz_num b len 1 4 (pz_sign b len 44 (pz_num b len 1 9 (pz_sort b len false s))))) → ¬ (S6 18 1) = 0 → Q none (am_hh X S6 L)) (k2 : 6 ≤ (S 29 4) → ∀ v2 : Int32, ∀ S2 : Nat → Nat → Int32, TF S S2 → TP b len S2 (pz_sort b len false s) → ((pz_sort b len false s).1 = 0 → v2 = pz_kind (pz_by b len s.2)) → ∀ v3 : Int32, ∀ S3 : Nat → Nat → Int32, TF S2 S3 → TP b len S3 (pz_num b len 1 9 (pz_sort b len false s)) → ((pz_num b len 1 9 (pz_sort b len false s)).1 = 0 → v3 = pz_v b len (pz_sort b len false s).2) → ∀ S4 : Nat → Nat → Int32, TF S3 S4 → TP b len S4 (pz_sign b len 44 (pz_num b len 1 9 (pz_sort b len false s))) → ∀ v5 : Int32, ∀ S5 : Nat → Nat → Int32, TF S4 S5 → TP b len S5 (pz_num b len 1 4 (pz_sign b len 44 (pz_num b len 1 9 (pz_sort b len false s)))) → ((pz_num b len 1 4 (pz_sign b len 44 (pz_num b len 1 9 (pz_sort b len false s)))).1 = 0 → v5 = pz_v b len (pz_sign b len 44 (pz_num b len 1 9 (pz_sort b len false s))).2) → ∀ S6 : Nat → Nat → Int32, TF S5 S6 → TP b len S6 (pz_sign b len 59 (pz_num b len 1 4 (pz_sign b len 44 (pz_num b len 1 9 (pz_sort b len false s))))) → (S6 18 1) = 0 → (S6 29 4) < 0 → Q none (am_hh X S6 L)) (k3 : 6 ≤ (S 29 4) → ∀ v2 : Int32, ∀ S2 : Nat → Nat → Int32, TF S S2 → TP b len S2 (pz_sort b len false s) → ((pz_sort b len false s).1 = 0 → v2 = pz_kind (pz_by b len s.2)) → ∀ v3 : Int32, ∀ S3 : Nat → Nat → Int32, TF S2 S3 → TP b len S3 (pz_num b len 1 9 (pz_sort b len false s)) → ((pz_num b len 1 9 (pz_sort b len false s)).1 = 0 → v3 = pz_v b len (pz_sort b len false s).2) → ∀ S4 : Nat → Nat → Int32, TF S3 S4 → TP b len S4 (pz_sign b len 44 (pz_num b len 1 9 (pz_sort b len false s))) → ∀ v5 : Int32, ∀ S5 : Nat → Nat → Int32, TF S4 S5 → TP b len S5 (pz_num b len 1 4 (pz_sign b len 44 (pz_num b len 1 9 (pz_sort b len false s)))) → ((pz_num b len 1 4 (pz_sign b len 44 (pz_num b len 1 9 (pz_sort b len false s)))).1 = 0 → v5 = pz_v b len (pz_sign b len 44 (pz_num b len 1 9 (pz_sort b len false s))).2) → ∀ S6 : Nat → Nat → Int32, TF S5 S6 → TP b len S6 (pz_sign b len 59 (pz_num b len 1 4 (pz_sign b len 44 (pz_num b len 1 9 (pz_sort b len false s))))) → (S6 18 1) = 0 → ¬ (S6 29 4) < 0 → (S6 29 4) < 6 → Q none (am_hh X (am_ovl (am_u (am_u (am_u (am_u S6 31 (S6 29 4).toNatClampNeg v2) 32 (S6 29 4).toNatClampNeg v3) 33 (S6 29 4).toNatClampNeg v5) 29 4 ((S6 29 4) + 1)) 29 (w_ca (am_sub (am_u (am_u (am_u (am_u S6 31 (S6 29 4).toNatClampNeg v2) 32 (S6 29 4).toNatClampNeg v3) 33 (S6 29 4).toNatClampNeg v5) 29 4 ((S6 29 4) + 1)) 29) (((S6 29 4) + 1) - 1).toNatClampNeg)) L)) (k4 : 6 ≤ (S 29 4) → ∀ v2 : Int32, ∀ S2 : Nat → Nat → Int32, TF S S2 → TP b len S2 (pz_sort b len false s) → ((pz_sort b len false s).1 = 0 → v2 = pz_kind (pz_by b len s.2)) → ∀ v3 : Int32, ∀ S3 : Nat → Nat → Int32, TF S2 S3 → TP b len S3 (pz_num b len 1 9 (pz_sort b len false s)) → ((pz_num b len 1 9 (pz_sort b len false s)).1 = 0 → v3 = pz_v b len (pz_sort b len false s).2) → ∀ S4 : Nat → Nat → Int32, TF S3 S4 → TP b len S4 (pz_sign b len 44 (pz_num b len 1 9 (pz_sort b len false s))) → ∀ v5 : Int32, ∀ S5 : Nat → Nat → Int32, TF S4 S5 → TP b len S5 (pz_num b len 1 4 (pz_sign b len 44 (pz_num b len 1 9 (pz_sort b len false s)))) → ((pz_num b len 1 4 (pz_sign b len 44 (pz_num b len 1 9 (pz_sort b len false s)))).1 = 0 → v5 = pz_v b len (pz_sign b len 44 (pz_num b len 1 9 (pz_sort b len false s))).2) → ∀ S6 : Nat → Nat → Int32, TF S5 S6 → TP b len S6 (pz_sign b len 59 (pz_num b len 1 4 (pz_sign b len 44 (pz_num b len 1 9 (pz_sort b len false s))))) → (S6 18 1) = 0 → ¬ (S6 29 4) < 0 → ¬ (S6 29 4) < 6 → Q none (am_hh X S6 L)) (k5 : ¬ 6 ≤ (S 29 4) → ∀ v10 : Int32, ∀ S10 : Nat → Nat → Int32, TF S S10 → TP b len S10 (pz_sort b len true s) → ((pz_sort b len true s).1 = 0 → v10 = pz_kind (pz_by b len s.2)) → ∀ v11 : Int32, ∀ S11 : Nat → Nat → Int32, TF S10 S11 → TP b len S11 (pz_num b len 1 9 (pz_sort b len true s)) → ((pz_num b len 1 9 (pz_sort b len true s)).1 = 0 → v11 = pz_v b len (pz_sort b len true s).2) → ∀ S12 : Nat → Nat → Int32, TF S11 S12 → TP b len S12 (pz_sign b len 44 (pz_num b len 1 9 (pz_sort b len true s))) → ∀ v13 : Int32, ∀ S13 : Nat → Nat → Int32, TF S12 S13 → TP b len S13 (pz_num b len 1 4 (pz_sign b len 44 (pz_num b len 1 9 (pz_sort b len true s)))) → ((pz_num b len 1 4 (pz_sign b len 44 (pz_num b len 1 9 (pz_sort b len true s)))).1 = 0 → v13 = pz_v b len (pz_sign b len 44 (pz_num b len 1 9 (pz_sort b len true s))).2) → ∀ S14 : Nat → Nat → Int32, TF S13 S14 → TP b len S14 (pz_sign b len 59 (pz_num b len 1 4 (pz_sign b len 44 (pz_num b len 1 9 (pz_sort b len true s))))) → ¬ (S14 18 1) = 0 → Q none (am_hh X S14 L)) (k6 : ¬ 6 ≤ (S 29 4) → ∀ v10 : Int32, ∀ S10 : Nat → Nat → Int32, TF S S10 → TP b len S10 (pz_sort b len true s) → ((pz_sort b len true s).1 = 0 → v10 = pz_kind (pz_by b len s.2)) → ∀ v11 : Int32, ∀ S11 : Nat → Nat → Int32, TF S10 S11 → TP b len S11 (pz_num b len 1 9 (pz_sort b len true s)) → ((pz_num b len 1 9 (pz_sort b len true s)).1 = 0 → v11 = pz_v b len (pz_sort b len true s).2) → ∀ S12 : Nat → Nat → Int32, TF S11 S12 → TP b len S12 (pz_sign b len 44 (pz_num b len 1 9 (pz_sort b len true s))) → ∀ v13 : Int32, ∀ S13 : Nat → Nat → Int32, TF S12 S13 → TP b len S13 (pz_num b len 1 4 (pz_sign b len 44 (pz_num b len 1 9 (pz_sort b len true s)))) → ((pz_num b len 1 4 (pz_sign b len 44 (pz_num b len 1 9 (pz_sort b len true s)))).1 = 0 → v13 = pz_v b len (pz_sign b len 44 (pz_num b len 1 9 (pz_sort b len true s))).2) → ∀ S14 : Nat → Nat → Int32, TF S13 S14 → TP b len S14 (pz_sign b len 59 (pz_num b len 1 4 (pz_sign b len 44 (pz_num b len 1 9 (pz_sort b len true s))))) → (S14 18 1) = 0 → (S14 29 4) < 0 → Q none (am_hh X S14 L)) (k7 : ¬ 6 ≤ (S 29 4) → ∀ v10 : Int32, ∀ S10 : Nat → Nat → Int32, TF S S10 → TP b len S10 (pz_sort b len true s) → ((pz_sort b len true s).1 = 0 → v10 = pz_kind (pz_by b len s.2)) → ∀ v11 : Int32, ∀ S11 : Nat → Nat → Int32, TF S10 S11 → TP b len S11 (pz_num b len 1 9 (pz_sort b len true s)) → ((pz_num b len 1 9 (pz_sort b len true s)).1 = 0 → v11 = pz_v b len (pz_sort b len true s).2) → ∀ S12 : Nat → Nat → Int32, TF S11 S12 → TP b len S12 (pz_sign b len 44 (pz_num b len 1 9 (pz_sort b len true s))) → ∀ v13 : Int32, ∀ S13 : Nat → Nat → Int32, TF S12 S13 → TP b len S13 (pz_num b len 1 4 (pz_sign b len 44 (pz_num b len 1 9 (pz_sort b len true s)))) → ((pz_num b len 1 4 (pz_sign b len 44 (pz_num b len 1 9 (pz_sort b len true s)))).1 = 0 → v13 = pz_v b len (pz_sign b len 44 (pz_num b len 1 9 (pz_sort b len true s))).2) → ∀ S14 : Nat → Nat → Int32, TF S13 S14 → TP b len S14 (pz_sign b len 59 (pz_num b len 1 4 (pz_sign b len 44 (pz_num b len 1 9 (pz_sort b len true s))))) → (S14 18 1) = 0 → ¬ (S14 29 4) < 0 → (S14 29 4) < 6 → Q none (am_hh X (am_ovl (am_u (am_u (am_u (am_u S14 31 (S14 29 4).toNatClampNeg v10) 32 (S14 29 4).toNatClampNeg v11) 33 (S14 29 4).toNatClampNeg v13) 29 4 ((S14 29 4) + 1)) 29 (w_ca (am_sub (am_u (am_u (am_u (am_u S14 31 (S14 29 4).toNatClampNeg v10) 32 (S14 29 4).toNatClampNeg v11) 33 (S14 29 4).toNatClampNeg v13) 29 4 ((S14 29 4) + 1)) 29) (((S14 29 4) + 1) - 1).toNatClampNeg)) L)) (k8 : ¬ 6 ≤ (S 29 4) → ∀ v10 : Int32, ∀ S10 : Nat → Nat → Int32, TF S S10 → TP b len S10 (pz_sort b len true s) → ((pz_sort b len true s).1 = 0 → v10 = pz_kind (pz_by b len s.2)) → ∀ v11 : Int32, ∀ S11 : Nat → Nat → Int32, TF S10 S11 → TP b len S11 (pz_num b len 1 9 (pz_sort b len true s)) → ((pz_num b len 1 9 (pz_sort b len true s)).1 = 0 → v11 = pz_v b len (pz_sort b len true s).2) → ∀ S12 : Nat → Nat → Int32, TF S11 S12 → TP b len S12 (pz_sign b len 44 (pz_num b len 1 9 (pz_sort b len true s))) → ∀ v13 : Int32, ∀ S13 : Nat → Nat → Int32, TF S12 S13 → TP b len S13 (pz_num b len 1 4 (pz_sign b len 44 (pz_num b len 1 9 (pz_sort b len true s)))) → ((pz_num b len 1 4 (pz_sign b len 44 (pz_num b len 1 9 (pz_sort b len true s)))).1 = 0 → v13 = pz_v b len (pz_sign b len 44 (pz_num b len 1 9 (pz_sort b len true s))).2) → ∀ S14 : Nat → Nat → Int32, TF S13 S14 → TP b len S14 (pz_sign b len 59 (pz_num b len 1 4 (pz_sign b len 44 (pz_num b len 1 9 (pz_sort b len true s))))) → (S14 18 1) = 0 → ¬ (S14 29 4) < 0 → ¬ (S14 29 4) < 6 → Q none (am_hh X S14 L)) : am_mt (d + 5) 37 [.ref 18, .ref 29] (am_hh X S L) Q := by
  refine ax_in (ls := [some (.ref 18), some (.ref 29), none, none, none]) rfl ?_
  refine ax_s (pc' := 1) (st' := [.ref 18]) rfl rfl rfl rfl ?_
  refine ax_s (pc' := 2) (st' := [.ref 29, .ref 18]) rfl rfl rfl rfl ?_
  refine ax_get rfl (hh_29 _ _ _) rfl rfl rfl ?_
  show am_ex (d + 5) 37 5 [some (.ref 18), some (.ref 29), none, none, none] [.int (S 29 4), .ref 18] (am_hh X S L) _
  refine ax_s (pc' := 7) (st' := [.int 6, .int (S 29 4), .ref 18]) rfl rfl rfl rfl ?_
  refine ax_cmp_ge rfl (fun c1 => ?_) (fun c1 => ?_)
  · refine ax_s (pc' := 15) (st' := [.int 0, .ref 18]) rfl rfl rfl rfl ?_
    refine ax_call (vs := [.ref 18, .int 0]) (rr := []) rfl rfl rfl ?_
    refine kt_sort hT (r := false) rfl (fun v2 S2 t2 u2 z2 => ?_)
    show am_ex (d + 5) 37 18 [some (.ref 18), some (.ref 29), none, none, none] [.int v2] (am_hh X S2 L) _
    refine ax_s (pc' := 19) (ls' := [some (.ref 18), some (.ref 29), some (.int v2), none, none]) (st' := []) rfl rfl rfl rfl ?_
    refine ax_s (pc' := 20) (st' := [.ref 18]) rfl rfl rfl rfl ?_
    refine ax_s (pc' := 21) (st' := [.int 1, .ref 18]) rfl rfl rfl rfl ?_
    refine ax_s (pc' := 23) (st' := [.int 9, .int 1, .ref 18]) rfl rfl rfl rfl ?_
    refine ax_call (vs := [.ref 18, .int 1, .int 9]) (rr := []) rfl rfl rfl ?_
    refine kt_num u2 (fun v3 S3 t3 u3 z3 => ?_)
    show am_ex (d + 5) 37 26 [some (.ref 18), some (.ref 29), some (.int v2), none, none] [.int v3] (am_hh X S3 L) _
    refine ax_s (pc' := 27) (ls' := [some (.ref 18), some (.ref 29), some (.int v2), some (.int v3), none]) (st' := []) rfl rfl rfl rfl ?_
    refine ax_s (pc' := 28) (st' := [.ref 18]) rfl rfl rfl rfl ?_
    refine ax_s (pc' := 30) (st' := [.int 44, .ref 18]) rfl rfl rfl rfl ?_
    refine ax_call (vs := [.ref 18, .int 44]) (rr := []) rfl rfl rfl ?_
    refine kt_sign u3 (by decide) (fun S4 t4 u4 => ?_)
    show am_ex (d + 5) 37 33 [some (.ref 18), some (.ref 29), some (.int v2), some (.int v3), none] [] (am_hh X S4 L) _
    refine ax_s (pc' := 34) (st' := [.ref 18]) rfl rfl rfl rfl ?_
    refine ax_s (pc' := 35) (st' := [.int 1, .ref 18]) rfl rfl rfl rfl ?_
    refine ax_s (pc' := 36) (st' := [.int 4, .int 1, .ref 18]) rfl rfl rfl rfl ?_
    refine ax_call (vs := [.ref 18, .int 1, .int 4]) (rr := []) rfl rfl rfl ?_
    refine kt_num u4 (fun v5 S5 t5 u5 z5 => ?_)
    show am_ex (d + 5) 37 39 [some (.ref 18), some (.ref 29), some (.int v2), some (.int v3), none] [.int v5] (am_hh X S5 L) _
    refine ax_s (pc' := 41) (ls' := [some (.ref 18), some (.ref 29), some (.int v2), some (.int v3), some (.int v5)]) (st' := []) rfl rfl rfl rfl ?_
    refine ax_s (pc' := 42) (st' := [.ref 18]) rfl rfl rfl rfl ?_
    refine ax_s (pc' := 44) (st' := [.int 59, .ref 18]) rfl rfl rfl rfl ?_
    refine ax_call (vs := [.ref 18, .int 59]) (rr := []) rfl rfl rfl ?_
    refine kt_sign u5 (by decide) (fun S6 t6 u6 => ?_)
    show am_ex (d + 5) 37 47 [some (.ref 18), some (.ref 29), some (.int v2), some (.int v3), some (.int v5)] [] (am_hh X S6 L) _
    refine ax_s (pc' := 48) (st' := [.ref 18]) rfl rfl rfl rfl ?_
    refine ax_get rfl (hh_18 _ _ _) rfl rfl rfl ?_
    show am_ex (d + 5) 37 51 [some (.ref 18), some (.ref 29), some (.int v2), some (.int v3), some (.int v5)] [.int (S6 18 1)] (am_hh X S6 L) _
    refine ax_if_ne rfl (fun c7 => ?_) (fun c7 => ?_)
    · refine ax_r rfl rfl rfl ?_
      exact k1 c1 v2 S2 t2 u2 z2 v3 S3 t3 u3 z3 S4 t4 u4 v5 S5 t5 u5 z5 S6 t6 u6 c7
    · refine ax_s (pc' := 55) (st' := [.ref 29]) rfl rfl rfl rfl ?_
      refine ax_s (pc' := 56) (st' := [.int v2, .ref 29]) rfl rfl rfl rfl ?_
      refine ax_s (pc' := 57) (st' := [.int v3, .int v2, .ref 29]) rfl rfl rfl rfl ?_
      refine ax_s (pc' := 59) (st' := [.int v5, .int v3, .int v2, .ref 29]) rfl rfl rfl rfl ?_
      refine ax_call (vs := [.ref 29, .int v2, .int v3, .int v5]) (rr := []) rfl rfl rfl ?_
      refine ax_in (ls := [some (.ref 29), some (.int v2), some (.int v3), some (.int v5)]) rfl ?_
      refine ax_s (pc' := 1) (st' := [.ref 29]) rfl rfl rfl rfl ?_
      refine ax_get rfl (hh_29 _ _ _) rfl rfl rfl ?_
      show am_ex (d + 4) 40 4 [some (.ref 29), some (.int v2), some (.int v3), some (.int v5)] [.int (S6 29 4)] (am_hh X S6 L) _
      refine ax_if_lt rfl (fun c8 => ?_) (fun c8 => ?_)
      · refine ax_r rfl rfl rfl ?_
        show am_ex (d + 5) 37 62 [some (.ref 18), some (.ref 29), some (.int v2), some (.int v3), some (.int v5)] [] (am_hh X S6 L) _
        refine ax_r rfl rfl rfl ?_
        exact k2 c1 v2 S2 t2 u2 z2 v3 S3 t3 u3 z3 S4 t4 u4 v5 S5 t5 u5 z5 S6 t6 u6 c7 c8
      · refine ax_s (pc' := 8) (st' := [.ref 29]) rfl rfl rfl rfl ?_
        refine ax_get rfl (hh_29 _ _ _) rfl rfl rfl ?_
        show am_ex (d + 4) 40 11 [some (.ref 29), some (.int v2), some (.int v3), some (.int v5)] [.int (S6 29 4)] (am_hh X S6 L) _
        refine ax_s (pc' := 13) (st' := [.int 6, .int (S6 29 4)]) rfl rfl rfl rfl ?_
        refine ax_cmp_lt rfl (fun c9 => ?_) (fun c9 => ?_)
        · refine ax_s (pc' := 18) (st' := [.ref 29]) rfl rfl rfl rfl ?_
          refine ax_get rfl (hh_29 _ _ _) rfl rfl rfl ?_
          show am_ex (d + 4) 40 21 [some (.ref 29), some (.int v2), some (.int v3), some (.int v5)] [.ref 31] (am_hh X S6 L) _
          refine ax_s (pc' := 22) (st' := [.ref 29, .ref 31]) rfl rfl rfl rfl ?_
          refine ax_get rfl (hh_29 _ _ _) rfl rfl rfl ?_
          show am_ex (d + 4) 40 25 [some (.ref 29), some (.int v2), some (.int v3), some (.int v5)] [.int (S6 29 4), .ref 31] (am_hh X S6 L) _
          refine ax_s (pc' := 26) (st' := [.int v2, .int (S6 29 4), .ref 31]) rfl rfl rfl rfl ?_
          refine ax_ast' rfl (hh_31 _ _ _) rfl (x1 c1 v2 S2 t2 u2 z2 v3 S3 t3 u3 z3 S4 t4 u4 v5 S5 t5 u5 z5 S6 t6 u6 c7 c8 c9) (am_hh_set _ _ _ 31 (S6 29 4).toNatClampNeg _ rfl) ?_
          refine ax_s (pc' := 28) (st' := [.ref 29]) rfl rfl rfl rfl ?_
          refine ax_get rfl (hh_29 _ _ _) rfl rfl rfl ?_
          show am_ex (d + 4) 40 31 [some (.ref 29), some (.int v2), some (.int v3), some (.int v5)] [.ref 32] (am_hh X (am_u S6 31 (S6 29 4).toNatClampNeg v2) L) _
          refine ax_s (pc' := 32) (st' := [.ref 29, .ref 32]) rfl rfl rfl rfl ?_
          refine ax_get rfl (hh_29 _ _ _) rfl rfl rfl ?_
          show am_ex (d + 4) 40 35 [some (.ref 29), some (.int v2), some (.int v3), some (.int v5)] [.int (S6 29 4), .ref 32] (am_hh X (am_u S6 31 (S6 29 4).toNatClampNeg v2) L) _
          refine ax_s (pc' := 36) (st' := [.int v3, .int (S6 29 4), .ref 32]) rfl rfl rfl rfl ?_
          refine ax_ast' rfl (hh_32 _ _ _) rfl (x1 c1 v2 S2 t2 u2 z2 v3 S3 t3 u3 z3 S4 t4 u4 v5 S5 t5 u5 z5 S6 t6 u6 c7 c8 c9) (am_hh_set _ _ _ 32 (S6 29 4).toNatClampNeg _ rfl) ?_
          refine ax_s (pc' := 38) (st' := [.ref 29]) rfl rfl rfl rfl ?_
          refine ax_get rfl (hh_29 _ _ _) rfl rfl rfl ?_
          show am_ex (d + 4) 40 41 [some (.ref 29), some (.int v2), some (.int v3), some (.int v5)] [.ref 33] (am_hh X (am_u (am_u S6 31 (S6 29 4).toNatClampNeg v2) 32 (S6 29 4).toNatClampNeg v3) L) _
          refine ax_s (pc' := 42) (st' := [.ref 29, .ref 33]) rfl rfl rfl rfl ?_
          refine ax_get rfl (hh_29 _ _ _) rfl rfl rfl ?_
          show am_ex (d + 4) 40 45 [some (.ref 29), some (.int v2), some (.int v3), some (.int v5)] [.int (S6 29 4), .ref 33] (am_hh X (am_u (am_u S6 31 (S6 29 4).toNatClampNeg v2) 32 (S6 29 4).toNatClampNeg v3) L) _
          refine ax_s (pc' := 46) (st' := [.int v5, .int (S6 29 4), .ref 33]) rfl rfl rfl rfl ?_
          refine ax_ast' rfl (hh_33 _ _ _) rfl (x1 c1 v2 S2 t2 u2 z2 v3 S3 t3 u3 z3 S4 t4 u4 v5 S5 t5 u5 z5 S6 t6 u6 c7 c8 c9) (am_hh_set _ _ _ 33 (S6 29 4).toNatClampNeg _ rfl) ?_
          refine ax_s (pc' := 48) (st' := [.ref 29]) rfl rfl rfl rfl ?_
          refine ax_s (pc' := 49) (st' := [.ref 29, .ref 29]) rfl rfl rfl rfl ?_
          refine ax_get rfl (hh_29 _ _ _) rfl rfl rfl ?_
          show am_ex (d + 4) 40 52 [some (.ref 29), some (.int v2), some (.int v3), some (.int v5)] [.int (S6 29 4), .ref 29] (am_hh X (am_u (am_u (am_u S6 31 (S6 29 4).toNatClampNeg v2) 32 (S6 29 4).toNatClampNeg v3) 33 (S6 29 4).toNatClampNeg v5) L) _
          refine ax_s (pc' := 53) (st' := [.int 1, .int (S6 29 4), .ref 29]) rfl rfl rfl rfl ?_
          refine ax_s (pc' := 54) (st' := [.int ((S6 29 4) + 1), .ref 29]) rfl rfl rfl rfl ?_
          refine ax_put rfl (hh_29 _ _ _) rfl rfl (show 4 + 1 ≤ _ from Nat.le_of_ble_eq_true rfl) rfl (am_hh_set _ _ _ 29 4 _ rfl) ?_
          refine ax_s (pc' := 58) (st' := [.ref 29]) rfl rfl rfl rfl ?_
          refine ax_s (pc' := 59) (st' := [.ref 29, .ref 29]) rfl rfl rfl rfl ?_
          refine ax_get rfl (hh_29 _ _ _) rfl rfl rfl ?_
          show am_ex (d + 4) 40 62 [some (.ref 29), some (.int v2), some (.int v3), some (.int v5)] [.int ((S6 29 4) + 1), .ref 29] (am_hh X (am_u (am_u (am_u (am_u S6 31 (S6 29 4).toNatClampNeg v2) 32 (S6 29 4).toNatClampNeg v3) 33 (S6 29 4).toNatClampNeg v5) 29 4 ((S6 29 4) + 1)) L) _
          refine ax_s (pc' := 63) (st' := [.int 1, .int ((S6 29 4) + 1), .ref 29]) rfl rfl rfl rfl ?_
          refine ax_s (pc' := 64) (st' := [.int (((S6 29 4) + 1) - 1), .ref 29]) rfl rfl rfl rfl ?_
          refine ax_call (vs := [.ref 29, .int (((S6 29 4) + 1) - 1)]) (rr := []) rfl rfl rfl ?_
          refine kw (am_hh_sub isW29 X (am_u (am_u (am_u (am_u S6 31 (S6 29 4).toNatClampNeg v2) 32 (S6 29 4).toNatClampNeg v3) 33 (S6 29 4).toNatClampNeg v5) 29 4 ((S6 29 4) + 1)) L) (am_hh_ov isW29 X (am_u (am_u (am_u (am_u S6 31 (S6 29 4).toNatClampNeg v2) 32 (S6 29 4).toNatClampNeg v3) 33 (S6 29 4).toNatClampNeg v5) 29 4 ((S6 29 4) + 1)) L _) (fun _ => ct_comeAgain (am_isW_k isW29 X (am_u (am_u (am_u (am_u S6 31 (S6 29 4).toNatClampNeg v2) 32 (S6 29 4).toNatClampNeg v3) 33 (S6 29 4).toNatClampNeg v5) 29 4 ((S6 29 4) + 1)) L) (am_ix_nI (x2 c1 v2 S2 t2 u2 z2 v3 S3 t3 u3 z3 S4 t4 u4 v5 S5 t5 u5 z5 S6 t6 u6 c7 c8 c9)) (am_ix_lt (x2 c1 v2 S2 t2 u2 z2 v3 S3 t3 u3 z3 S4 t4 u4 v5 S5 t5 u5 z5 S6 t6 u6 c7 c8 c9))) ?_
          show am_ex (d + 4) 40 67 [some (.ref 29), some (.int v2), some (.int v3), some (.int v5)] [] (am_hh X (am_ovl (am_u (am_u (am_u (am_u S6 31 (S6 29 4).toNatClampNeg v2) 32 (S6 29 4).toNatClampNeg v3) 33 (S6 29 4).toNatClampNeg v5) 29 4 ((S6 29 4) + 1)) 29 (w_ca (am_sub (am_u (am_u (am_u (am_u S6 31 (S6 29 4).toNatClampNeg v2) 32 (S6 29 4).toNatClampNeg v3) 33 (S6 29 4).toNatClampNeg v5) 29 4 ((S6 29 4) + 1)) 29) (((S6 29 4) + 1) - 1).toNatClampNeg)) L) _
          refine ax_r rfl rfl rfl ?_
          show am_ex (d + 5) 37 62 [some (.ref 18), some (.ref 29), some (.int v2), some (.int v3), some (.int v5)] [] (am_hh X (am_ovl (am_u (am_u (am_u (am_u S6 31 (S6 29 4).toNatClampNeg v2) 32 (S6 29 4).toNatClampNeg v3) 33 (S6 29 4).toNatClampNeg v5) 29 4 ((S6 29 4) + 1)) 29 (w_ca (am_sub (am_u (am_u (am_u (am_u S6 31 (S6 29 4).toNatClampNeg v2) 32 (S6 29 4).toNatClampNeg v3) 33 (S6 29 4).toNatClampNeg v5) 29 4 ((S6 29 4) + 1)) 29) (((S6 29 4) + 1) - 1).toNatClampNeg)) L) _
          refine ax_r rfl rfl rfl ?_
          exact k3 c1 v2 S2 t2 u2 z2 v3 S3 t3 u3 z3 S4 t4 u4 v5 S5 t5 u5 z5 S6 t6 u6 c7 c8 c9
        · refine ax_r rfl rfl rfl ?_
          show am_ex (d + 5) 37 62 [some (.ref 18), some (.ref 29), some (.int v2), some (.int v3), some (.int v5)] [] (am_hh X S6 L) _
          refine ax_r rfl rfl rfl ?_
          exact k4 c1 v2 S2 t2 u2 z2 v3 S3 t3 u3 z3 S4 t4 u4 v5 S5 t5 u5 z5 S6 t6 u6 c7 c8 c9
  · refine ax_s (pc' := 11) (st' := [.int 1, .ref 18]) rfl rfl rfl rfl ?_
    refine ax_s (pc' := 15) (st' := [.int 1, .ref 18]) rfl rfl rfl rfl ?_
    refine ax_call (vs := [.ref 18, .int 1]) (rr := []) rfl rfl rfl ?_
    refine kt_sort hT (r := true) rfl (fun v10 S10 t10 u10 z10 => ?_)
    show am_ex (d + 5) 37 18 [some (.ref 18), some (.ref 29), none, none, none] [.int v10] (am_hh X S10 L) _
    refine ax_s (pc' := 19) (ls' := [some (.ref 18), some (.ref 29), some (.int v10), none, none]) (st' := []) rfl rfl rfl rfl ?_
    refine ax_s (pc' := 20) (st' := [.ref 18]) rfl rfl rfl rfl ?_
    refine ax_s (pc' := 21) (st' := [.int 1, .ref 18]) rfl rfl rfl rfl ?_
    refine ax_s (pc' := 23) (st' := [.int 9, .int 1, .ref 18]) rfl rfl rfl rfl ?_
    refine ax_call (vs := [.ref 18, .int 1, .int 9]) (rr := []) rfl rfl rfl ?_
    refine kt_num u10 (fun v11 S11 t11 u11 z11 => ?_)
    show am_ex (d + 5) 37 26 [some (.ref 18), some (.ref 29), some (.int v10), none, none] [.int v11] (am_hh X S11 L) _
    refine ax_s (pc' := 27) (ls' := [some (.ref 18), some (.ref 29), some (.int v10), some (.int v11), none]) (st' := []) rfl rfl rfl rfl ?_
    refine ax_s (pc' := 28) (st' := [.ref 18]) rfl rfl rfl rfl ?_
    refine ax_s (pc' := 30) (st' := [.int 44, .ref 18]) rfl rfl rfl rfl ?_
    refine ax_call (vs := [.ref 18, .int 44]) (rr := []) rfl rfl rfl ?_
    refine kt_sign u11 (by decide) (fun S12 t12 u12 => ?_)
    show am_ex (d + 5) 37 33 [some (.ref 18), some (.ref 29), some (.int v10), some (.int v11), none] [] (am_hh X S12 L) _
    refine ax_s (pc' := 34) (st' := [.ref 18]) rfl rfl rfl rfl ?_
    refine ax_s (pc' := 35) (st' := [.int 1, .ref 18]) rfl rfl rfl rfl ?_
    refine ax_s (pc' := 36) (st' := [.int 4, .int 1, .ref 18]) rfl rfl rfl rfl ?_
    refine ax_call (vs := [.ref 18, .int 1, .int 4]) (rr := []) rfl rfl rfl ?_
    refine kt_num u12 (fun v13 S13 t13 u13 z13 => ?_)
    show am_ex (d + 5) 37 39 [some (.ref 18), some (.ref 29), some (.int v10), some (.int v11), none] [.int v13] (am_hh X S13 L) _
    refine ax_s (pc' := 41) (ls' := [some (.ref 18), some (.ref 29), some (.int v10), some (.int v11), some (.int v13)]) (st' := []) rfl rfl rfl rfl ?_
    refine ax_s (pc' := 42) (st' := [.ref 18]) rfl rfl rfl rfl ?_
    refine ax_s (pc' := 44) (st' := [.int 59, .ref 18]) rfl rfl rfl rfl ?_
    refine ax_call (vs := [.ref 18, .int 59]) (rr := []) rfl rfl rfl ?_
    refine kt_sign u13 (by decide) (fun S14 t14 u14 => ?_)
    show am_ex (d + 5) 37 47 [some (.ref 18), some (.ref 29), some (.int v10), some (.int v11), some (.int v13)] [] (am_hh X S14 L) _
    refine ax_s (pc' := 48) (st' := [.ref 18]) rfl rfl rfl rfl ?_
    refine ax_get rfl (hh_18 _ _ _) rfl rfl rfl ?_
    show am_ex (d + 5) 37 51 [some (.ref 18), some (.ref 29), some (.int v10), some (.int v11), some (.int v13)] [.int (S14 18 1)] (am_hh X S14 L) _
    refine ax_if_ne rfl (fun c15 => ?_) (fun c15 => ?_)
    · refine ax_r rfl rfl rfl ?_
      exact k5 c1 v10 S10 t10 u10 z10 v11 S11 t11 u11 z11 S12 t12 u12 v13 S13 t13 u13 z13 S14 t14 u14 c15
    · refine ax_s (pc' := 55) (st' := [.ref 29]) rfl rfl rfl rfl ?_
      refine ax_s (pc' := 56) (st' := [.int v10, .ref 29]) rfl rfl rfl rfl ?_
      refine ax_s (pc' := 57) (st' := [.int v11, .int v10, .ref 29]) rfl rfl rfl rfl ?_
      refine ax_s (pc' := 59) (st' := [.int v13, .int v11, .int v10, .ref 29]) rfl rfl rfl rfl ?_
      refine ax_call (vs := [.ref 29, .int v10, .int v11, .int v13]) (rr := []) rfl rfl rfl ?_
      refine ax_in (ls := [some (.ref 29), some (.int v10), some (.int v11), some (.int v13)]) rfl ?_
      refine ax_s (pc' := 1) (st' := [.ref 29]) rfl rfl rfl rfl ?_
      refine ax_get rfl (hh_29 _ _ _) rfl rfl rfl ?_
      show am_ex (d + 4) 40 4 [some (.ref 29), some (.int v10), some (.int v11), some (.int v13)] [.int (S14 29 4)] (am_hh X S14 L) _
      refine ax_if_lt rfl (fun c16 => ?_) (fun c16 => ?_)
      · refine ax_r rfl rfl rfl ?_
        show am_ex (d + 5) 37 62 [some (.ref 18), some (.ref 29), some (.int v10), some (.int v11), some (.int v13)] [] (am_hh X S14 L) _
        refine ax_r rfl rfl rfl ?_
        exact k6 c1 v10 S10 t10 u10 z10 v11 S11 t11 u11 z11 S12 t12 u12 v13 S13 t13 u13 z13 S14 t14 u14 c15 c16
      · refine ax_s (pc' := 8) (st' := [.ref 29]) rfl rfl rfl rfl ?_
        refine ax_get rfl (hh_29 _ _ _) rfl rfl rfl ?_
        show am_ex (d + 4) 40 11 [some (.ref 29), some (.int v10), some (.int v11), some (.int v13)] [.int (S14 29 4)] (am_hh X S14 L) _
        refine ax_s (pc' := 13) (st' := [.int 6, .int (S14 29 4)]) rfl rfl rfl rfl ?_
        refine ax_cmp_lt rfl (fun c17 => ?_) (fun c17 => ?_)
        · refine ax_s (pc' := 18) (st' := [.ref 29]) rfl rfl rfl rfl ?_
          refine ax_get rfl (hh_29 _ _ _) rfl rfl rfl ?_
          show am_ex (d + 4) 40 21 [some (.ref 29), some (.int v10), some (.int v11), some (.int v13)] [.ref 31] (am_hh X S14 L) _
          refine ax_s (pc' := 22) (st' := [.ref 29, .ref 31]) rfl rfl rfl rfl ?_
          refine ax_get rfl (hh_29 _ _ _) rfl rfl rfl ?_
          show am_ex (d + 4) 40 25 [some (.ref 29), some (.int v10), some (.int v11), some (.int v13)] [.int (S14 29 4), .ref 31] (am_hh X S14 L) _
          refine ax_s (pc' := 26) (st' := [.int v10, .int (S14 29 4), .ref 31]) rfl rfl rfl rfl ?_
          refine ax_ast' rfl (hh_31 _ _ _) rfl (x3 c1 v10 S10 t10 u10 z10 v11 S11 t11 u11 z11 S12 t12 u12 v13 S13 t13 u13 z13 S14 t14 u14 c15 c16 c17) (am_hh_set _ _ _ 31 (S14 29 4).toNatClampNeg _ rfl) ?_
          refine ax_s (pc' := 28) (st' := [.ref 29]) rfl rfl rfl rfl ?_
          refine ax_get rfl (hh_29 _ _ _) rfl rfl rfl ?_
          show am_ex (d + 4) 40 31 [some (.ref 29), some (.int v10), some (.int v11), some (.int v13)] [.ref 32] (am_hh X (am_u S14 31 (S14 29 4).toNatClampNeg v10) L) _
          refine ax_s (pc' := 32) (st' := [.ref 29, .ref 32]) rfl rfl rfl rfl ?_
          refine ax_get rfl (hh_29 _ _ _) rfl rfl rfl ?_
          show am_ex (d + 4) 40 35 [some (.ref 29), some (.int v10), some (.int v11), some (.int v13)] [.int (S14 29 4), .ref 32] (am_hh X (am_u S14 31 (S14 29 4).toNatClampNeg v10) L) _
          refine ax_s (pc' := 36) (st' := [.int v11, .int (S14 29 4), .ref 32]) rfl rfl rfl rfl ?_
          refine ax_ast' rfl (hh_32 _ _ _) rfl (x3 c1 v10 S10 t10 u10 z10 v11 S11 t11 u11 z11 S12 t12 u12 v13 S13 t13 u13 z13 S14 t14 u14 c15 c16 c17) (am_hh_set _ _ _ 32 (S14 29 4).toNatClampNeg _ rfl) ?_
          refine ax_s (pc' := 38) (st' := [.ref 29]) rfl rfl rfl rfl ?_
          refine ax_get rfl (hh_29 _ _ _) rfl rfl rfl ?_
          show am_ex (d + 4) 40 41 [some (.ref 29), some (.int v10), some (.int v11), some (.int v13)] [.ref 33] (am_hh X (am_u (am_u S14 31 (S14 29 4).toNatClampNeg v10) 32 (S14 29 4).toNatClampNeg v11) L) _
          refine ax_s (pc' := 42) (st' := [.ref 29, .ref 33]) rfl rfl rfl rfl ?_
          refine ax_get rfl (hh_29 _ _ _) rfl rfl rfl ?_
          show am_ex (d + 4) 40 45 [some (.ref 29), some (.int v10), some (.int v11), some (.int v13)] [.int (S14 29 4), .ref 33] (am_hh X (am_u (am_u S14 31 (S14 29 4).toNatClampNeg v10) 32 (S14 29 4).toNatClampNeg v11) L) _
          refine ax_s (pc' := 46) (st' := [.int v13, .int (S14 29 4), .ref 33]) rfl rfl rfl rfl ?_
          refine ax_ast' rfl (hh_33 _ _ _) rfl (x3 c1 v10 S10 t10 u10 z10 v11 S11 t11 u11 z11 S12 t12 u12 v13 S13 t13 u13 z13 S14 t14 u14 c15 c16 c17) (am_hh_set _ _ _ 33 (S14 29 4).toNatClampNeg _ rfl) ?_
          refine ax_s (pc' := 48) (st' := [.ref 29]) rfl rfl rfl rfl ?_
          refine ax_s (pc' := 49) (st' := [.ref 29, .ref 29]) rfl rfl rfl rfl ?_
          refine ax_get rfl (hh_29 _ _ _) rfl rfl rfl ?_
          show am_ex (d + 4) 40 52 [some (.ref 29), some (.int v10), some (.int v11), some (.int v13)] [.int (S14 29 4), .ref 29] (am_hh X (am_u (am_u (am_u S14 31 (S14 29 4).toNatClampNeg v10) 32 (S14 29 4).toNatClampNeg v11) 33 (S14 29 4).toNatClampNeg v13) L) _
          refine ax_s (pc' := 53) (st' := [.int 1, .int (S14 29 4), .ref 29]) rfl rfl rfl rfl ?_
          refine ax_s (pc' := 54) (st' := [.int ((S14 29 4) + 1), .ref 29]) rfl rfl rfl rfl ?_
          refine ax_put rfl (hh_29 _ _ _) rfl rfl (show 4 + 1 ≤ _ from Nat.le_of_ble_eq_true rfl) rfl (am_hh_set _ _ _ 29 4 _ rfl) ?_
          refine ax_s (pc' := 58) (st' := [.ref 29]) rfl rfl rfl rfl ?_
          refine ax_s (pc' := 59) (st' := [.ref 29, .ref 29]) rfl rfl rfl rfl ?_
          refine ax_get rfl (hh_29 _ _ _) rfl rfl rfl ?_
          show am_ex (d + 4) 40 62 [some (.ref 29), some (.int v10), some (.int v11), some (.int v13)] [.int ((S14 29 4) + 1), .ref 29] (am_hh X (am_u (am_u (am_u (am_u S14 31 (S14 29 4).toNatClampNeg v10) 32 (S14 29 4).toNatClampNeg v11) 33 (S14 29 4).toNatClampNeg v13) 29 4 ((S14 29 4) + 1)) L) _
          refine ax_s (pc' := 63) (st' := [.int 1, .int ((S14 29 4) + 1), .ref 29]) rfl rfl rfl rfl ?_
          refine ax_s (pc' := 64) (st' := [.int (((S14 29 4) + 1) - 1), .ref 29]) rfl rfl rfl rfl ?_
          refine ax_call (vs := [.ref 29, .int (((S14 29 4) + 1) - 1)]) (rr := []) rfl rfl rfl ?_
          refine kw (am_hh_sub isW29 X (am_u (am_u (am_u (am_u S14 31 (S14 29 4).toNatClampNeg v10) 32 (S14 29 4).toNatClampNeg v11) 33 (S14 29 4).toNatClampNeg v13) 29 4 ((S14 29 4) + 1)) L) (am_hh_ov isW29 X (am_u (am_u (am_u (am_u S14 31 (S14 29 4).toNatClampNeg v10) 32 (S14 29 4).toNatClampNeg v11) 33 (S14 29 4).toNatClampNeg v13) 29 4 ((S14 29 4) + 1)) L _) (fun _ => ct_comeAgain (am_isW_k isW29 X (am_u (am_u (am_u (am_u S14 31 (S14 29 4).toNatClampNeg v10) 32 (S14 29 4).toNatClampNeg v11) 33 (S14 29 4).toNatClampNeg v13) 29 4 ((S14 29 4) + 1)) L) (am_ix_nI (x4 c1 v10 S10 t10 u10 z10 v11 S11 t11 u11 z11 S12 t12 u12 v13 S13 t13 u13 z13 S14 t14 u14 c15 c16 c17)) (am_ix_lt (x4 c1 v10 S10 t10 u10 z10 v11 S11 t11 u11 z11 S12 t12 u12 v13 S13 t13 u13 z13 S14 t14 u14 c15 c16 c17))) ?_
          show am_ex (d + 4) 40 67 [some (.ref 29), some (.int v10), some (.int v11), some (.int v13)] [] (am_hh X (am_ovl (am_u (am_u (am_u (am_u S14 31 (S14 29 4).toNatClampNeg v10) 32 (S14 29 4).toNatClampNeg v11) 33 (S14 29 4).toNatClampNeg v13) 29 4 ((S14 29 4) + 1)) 29 (w_ca (am_sub (am_u (am_u (am_u (am_u S14 31 (S14 29 4).toNatClampNeg v10) 32 (S14 29 4).toNatClampNeg v11) 33 (S14 29 4).toNatClampNeg v13) 29 4 ((S14 29 4) + 1)) 29) (((S14 29 4) + 1) - 1).toNatClampNeg)) L) _
          refine ax_r rfl rfl rfl ?_
          show am_ex (d + 5) 37 62 [some (.ref 18), some (.ref 29), some (.int v10), some (.int v11), some (.int v13)] [] (am_hh X (am_ovl (am_u (am_u (am_u (am_u S14 31 (S14 29 4).toNatClampNeg v10) 32 (S14 29 4).toNatClampNeg v11) 33 (S14 29 4).toNatClampNeg v13) 29 4 ((S14 29 4) + 1)) 29 (w_ca (am_sub (am_u (am_u (am_u (am_u S14 31 (S14 29 4).toNatClampNeg v10) 32 (S14 29 4).toNatClampNeg v11) 33 (S14 29 4).toNatClampNeg v13) 29 4 ((S14 29 4) + 1)) 29) (((S14 29 4) + 1) - 1).toNatClampNeg)) L) _
          refine ax_r rfl rfl rfl ?_
          exact k7 c1 v10 S10 t10 u10 z10 v11 S11 t11 u11 z11 S12 t12 u12 v13 S13 t13 u13 z13 S14 t14 u14 c15 c16 c17
        · refine ax_r rfl rfl rfl ?_
          show am_ex (d + 5) 37 62 [some (.ref 18), some (.ref 29), some (.int v10), some (.int v11), some (.int v13)] [] (am_hh X S14 L) _
          refine ax_r rfl rfl rfl ?_
          exact k8 c1 v10 S10 t10 u10 z10 v11 S11 t11 u11 z11 S12 t12 u12 v13 S13 t13 u13 z13 S14 t14 u14 c15 c16 c17
theorem wp_mreadLaw {d : Nat} {X : Nat × (Nat → Int32)} {S : Nat → Nat → Int32} {L : Nat → Int64} {b : Nat → Int32} {len : Nat} {s : Int32 × Nat} {Q : Option Value → am_H → Prop} (hT : MP b len (am_u (am_u (am_u S 285 21 0) 285 23 0) 285 24 0) s)  (k1 : ∀ S1 : Nat → Nat → Int32, MG (am_u (am_u (am_u S 285 21 0) 285 23 0) 285 24 0) S1 → MP b len S1 (pz_sign b len 119 s) → ∀ v2 : Int32, ∀ S2 : Nat → Nat → Int32, MG S1 S2 → MP b len S2 (pz_num b len 4 12 (pz_sign b len 119 s)) → ((pz_num b len 4 12 (pz_sign b len 119 s)).1 = 0 → v2 = pz_v b len (pz_sign b len 119 s).2) → ∀ S3 : Nat → Nat → Int32, MG (am_u S2 300 0 v2) S3 → MP b len S3 (pz_sign b len 44 (pz_num b len 4 12 (pz_sign b len 119 s))) → ∀ v4 : Int32, ∀ S4 : Nat → Nat → Int32, MG S3 S4 → MP b len S4 (pz_num b len 1 99 (pz_sign b len 44 (pz_num b len 4 12 (pz_sign b len 119 s)))) → ((pz_num b len 1 99 (pz_sign b len 44 (pz_num b len 4 12 (pz_sign b len 119 s)))).1 = 0 → v4 = pz_v b len (pz_sign b len 44 (pz_num b len 4 12 (pz_sign b len 119 s))).2) → ∀ S5 : Nat → Nat → Int32, MG (am_u S4 300 1 v4) S5 → MP b len S5 (pz_sign b len 59 (pz_num b len 1 99 (pz_sign b len 44 (pz_num b len 4 12 (pz_sign b len 119 s))))) → am_ex (d + 6) 159 59 [some (.ref 285)] [] (am_hh X S5 L) Q) : am_mt (d + 6) 159 [.ref 285] (am_hh X S L) Q := by
  refine ax_in (ls := [some (.ref 285)]) rfl ?_
  refine ax_s (pc' := 1) (st' := [.ref 285]) rfl rfl rfl rfl ?_
  refine ax_s (pc' := 2) (st' := [.int 0, .ref 285]) rfl rfl rfl rfl ?_
  refine ax_put rfl (hh_285 _ _ _) rfl rfl (show 21 + 1 ≤ _ from Nat.le_of_ble_eq_true rfl) rfl (am_hh_set _ _ _ 285 21 _ rfl) ?_
  refine ax_s (pc' := 6) (st' := [.ref 285]) rfl rfl rfl rfl ?_
  refine ax_s (pc' := 7) (st' := [.int 0, .ref 285]) rfl rfl rfl rfl ?_
  refine ax_put rfl (hh_285 _ _ _) rfl rfl (show 23 + 1 ≤ _ from Nat.le_of_ble_eq_true rfl) rfl (am_hh_set _ _ _ 285 23 _ rfl) ?_
  refine ax_s (pc' := 11) (st' := [.ref 285]) rfl rfl rfl rfl ?_
  refine ax_s (pc' := 12) (st' := [.int 0, .ref 285]) rfl rfl rfl rfl ?_
  refine ax_put rfl (hh_285 _ _ _) rfl rfl (show 24 + 1 ≤ _ from Nat.le_of_ble_eq_true rfl) rfl (am_hh_set _ _ _ 285 24 _ rfl) ?_
  refine ax_s (pc' := 16) (st' := [.ref 285]) rfl rfl rfl rfl ?_
  refine ax_s (pc' := 18) (st' := [.int 119, .ref 285]) rfl rfl rfl rfl ?_
  refine ax_call (vs := [.ref 285, .int 119]) (rr := []) rfl rfl rfl ?_
  refine mt_sign hT (by decide) (fun S1 t1 u1 => ?_)
  show am_ex (d + 6) 159 21 [some (.ref 285)] [] (am_hh X S1 L) _
  refine ax_s (pc' := 22) (st' := [.ref 285]) rfl rfl rfl rfl ?_
  refine ax_get rfl (hh_285 _ _ _) rfl rfl rfl ?_
  show am_ex (d + 6) 159 25 [some (.ref 285)] [.ref 300] (am_hh X S1 L) _
  refine ax_s (pc' := 26) (st' := [.int 0, .ref 300]) rfl rfl rfl rfl ?_
  refine ax_s (pc' := 27) (st' := [.ref 285, .int 0, .ref 300]) rfl rfl rfl rfl ?_
  refine ax_s (pc' := 28) (st' := [.int 4, .ref 285, .int 0, .ref 300]) rfl rfl rfl rfl ?_
  refine ax_s (pc' := 30) (st' := [.int 12, .int 4, .ref 285, .int 0, .ref 300]) rfl rfl rfl rfl ?_
  refine ax_call (vs := [.ref 285, .int 4, .int 12]) (rr := [.int 0, .ref 300]) rfl rfl rfl ?_
  refine mt_number u1 (fun v2 S2 t2 u2 z2 => ?_)
  show am_ex (d + 6) 159 33 [some (.ref 285)] [.int v2, .int 0, .ref 300] (am_hh X S2 L) _
  refine ax_ast (j := 0) rfl (hh_300 _ _ _) rfl rfl (by decide) (by decide) (am_hh_set _ _ _ 300 0 _ rfl) ?_
  refine ax_s (pc' := 35) (st' := [.ref 285]) rfl rfl rfl rfl ?_
  refine ax_s (pc' := 37) (st' := [.int 44, .ref 285]) rfl rfl rfl rfl ?_
  refine ax_call (vs := [.ref 285, .int 44]) (rr := []) rfl rfl rfl ?_
  refine mt_sign (MP_u u2) (by decide) (fun S3 t3 u3 => ?_)
  show am_ex (d + 6) 159 40 [some (.ref 285)] [] (am_hh X S3 L) _
  refine ax_s (pc' := 41) (st' := [.ref 285]) rfl rfl rfl rfl ?_
  refine ax_get rfl (hh_285 _ _ _) rfl rfl rfl ?_
  show am_ex (d + 6) 159 44 [some (.ref 285)] [.ref 300] (am_hh X S3 L) _
  refine ax_s (pc' := 45) (st' := [.int 1, .ref 300]) rfl rfl rfl rfl ?_
  refine ax_s (pc' := 46) (st' := [.ref 285, .int 1, .ref 300]) rfl rfl rfl rfl ?_
  refine ax_s (pc' := 47) (st' := [.int 1, .ref 285, .int 1, .ref 300]) rfl rfl rfl rfl ?_
  refine ax_s (pc' := 49) (st' := [.int 99, .int 1, .ref 285, .int 1, .ref 300]) rfl rfl rfl rfl ?_
  refine ax_call (vs := [.ref 285, .int 1, .int 99]) (rr := [.int 1, .ref 300]) rfl rfl rfl ?_
  refine mt_number u3 (fun v4 S4 t4 u4 z4 => ?_)
  show am_ex (d + 6) 159 52 [some (.ref 285)] [.int v4, .int 1, .ref 300] (am_hh X S4 L) _
  refine ax_ast (j := 1) rfl (hh_300 _ _ _) rfl rfl (by decide) (by decide) (am_hh_set _ _ _ 300 1 _ rfl) ?_
  refine ax_s (pc' := 54) (st' := [.ref 285]) rfl rfl rfl rfl ?_
  refine ax_s (pc' := 56) (st' := [.int 59, .ref 285]) rfl rfl rfl rfl ?_
  refine ax_call (vs := [.ref 285, .int 59]) (rr := []) rfl rfl rfl ?_
  refine mt_sign (MP_u u4) (by decide) (fun S5 t5 u5 => ?_)
  show am_ex (d + 6) 159 59 [some (.ref 285)] [] (am_hh X S5 L) _
  exact k1 S1 t1 u1 v2 S2 t2 u2 z2 S3 t3 u3 v4 S4 t4 u4 z4 S5 t5 u5
theorem wp_mreadParty {d : Nat} {X : Nat × (Nat → Int32)} {S : Nat → Nat → Int32} {L : Nat → Int64} {b : Nat → Int32} {len a : Nat} {s1 : Int32 × Nat} {p : Nat} {Q : Option Value → am_H → Prop} (ha : S 285 21 = nI a) (ha1 : a < 2 ^ 31) (hl : S 285 5 = nI len) (hl1 : len ≤ 100) (hb : ∀ i, i < 100 → S 289 i = b i) (hp : S 285 24 = nI p) (hT : ¬ (pz_kind (pz_by b len a)) = 0 → MP b len (am_u S 285 21 ((S 285 21) + 1)) s1)  (x1 : ¬ (pz_kind (pz_by b len a)) = 0 → ¬ (S 285 24) = 6 → p < 6) (k1 : (pz_kind (pz_by b len a)) = 0 → ¬ (S 285 23) = 0 → Q none (am_hh X S L)) (k2 : (pz_kind (pz_by b len a)) = 0 → (S 285 23) = 0 → Q none (am_hh X (am_u (am_u S 285 23 1) 285 22 (S 285 21)) L)) (k3 : ¬ (pz_kind (pz_by b len a)) = 0 → ¬ (S 285 24) = 6 → ∀ v5 : Int32, ∀ S5 : Nat → Nat → Int32, MG (am_u (am_u S 285 21 ((S 285 21) + 1)) 301 p (pz_kind (pz_by b len a))) S5 → MP b len S5 (pz_num b len 1 9 s1) → ((pz_num b len 1 9 s1).1 = 0 → v5 = pz_v b len s1.2) → ∀ S6 : Nat → Nat → Int32, MG (am_u S5 302 p v5) S6 → MP b len S6 (pz_sign b len 44 (pz_num b len 1 9 s1)) → ∀ v7 : Int32, ∀ S7 : Nat → Nat → Int32, MG S6 S7 → MP b len S7 (pz_num b len 1 4 (pz_sign b len 44 (pz_num b len 1 9 s1))) → ((pz_num b len 1 4 (pz_sign b len 44 (pz_num b len 1 9 s1))).1 = 0 → v7 = pz_v b len (pz_sign b len 44 (pz_num b len 1 9 s1)).2) → ∀ S8 : Nat → Nat → Int32, MG (am_u S7 303 p v7) S8 → MP b len S8 (pz_sign b len 59 (pz_num b len 1 4 (pz_sign b len 44 (pz_num b len 1 9 s1)))) → Q none (am_hh X (am_u S8 285 24 ((S8 285 24) + 1)) L)) (k4 : ¬ (pz_kind (pz_by b len a)) = 0 → (S 285 24) = 6 → ¬ (S 285 23) = 0 → Q none (am_hh X S L)) (k5 : ¬ (pz_kind (pz_by b len a)) = 0 → (S 285 24) = 6 → (S 285 23) = 0 → Q none (am_hh X (am_u (am_u S 285 23 3) 285 22 (S 285 21)) L)) : am_mt (d + 5) 165 [.ref 285] (am_hh X S L) Q := by
  refine ax_in (ls := [some (.ref 285), none]) rfl ?_
  refine ax_s (pc' := 1) (st' := [.ref 285]) rfl rfl rfl rfl ?_
  refine ax_call (vs := [.ref 285]) (rr := []) rfl rfl rfl ?_
  refine mt_here (b := b) ha ha1 hl hl1 hb ?_
  show am_ex (d + 5) 165 4 [some (.ref 285), none] [.int (pz_by b len a)] (am_hh X S L) _
  refine ax_call (vs := [.int (pz_by b len a)]) (rr := []) rfl rfl rfl ?_
  refine mt_sortBy ?_
  show am_ex (d + 5) 165 7 [some (.ref 285), none] [.int (pz_kind (pz_by b len a))] (am_hh X S L) _
  refine ax_s (pc' := 8) (ls' := [some (.ref 285), some (.int (pz_kind (pz_by b len a)))]) (st' := []) rfl rfl rfl rfl ?_
  refine ax_s (pc' := 9) (st' := [.int (pz_kind (pz_by b len a))]) rfl rfl rfl rfl ?_
  refine ax_if_eq rfl (fun c1 => ?_) (fun c1 => ?_)
  · refine ax_s (pc' := 22) (st' := [.ref 285]) rfl rfl rfl rfl ?_
    refine ax_s (pc' := 23) (st' := [.int (pz_kind (pz_by b len a)), .ref 285]) rfl rfl rfl rfl ?_
    refine ax_if_ne rfl (fun c2 => False.elim (by first | exact c2 c1 | exact c1 c2)) (fun c2 => ?_)
    refine ax_s (pc' := 27) (st' := [.int 1, .ref 285]) rfl rfl rfl rfl ?_
    refine ax_s (pc' := 31) (st' := [.int 1, .ref 285]) rfl rfl rfl rfl ?_
    refine ax_call (vs := [.ref 285, .int 1]) (rr := []) rfl rfl rfl ?_
    refine ax_in (ls := [some (.ref 285), some (.int 1)]) rfl ?_
    refine ax_s (pc' := 1) (st' := [.ref 285]) rfl rfl rfl rfl ?_
    refine ax_get rfl (hh_285 _ _ _) rfl rfl rfl ?_
    show am_ex (d + 4) 162 4 [some (.ref 285), some (.int 1)] [.int (S 285 23)] (am_hh X S L) _
    refine ax_if_ne rfl (fun c3 => ?_) (fun c3 => ?_)
    · refine ax_r rfl rfl rfl ?_
      show am_ex (d + 5) 165 34 [some (.ref 285), some (.int (pz_kind (pz_by b len a)))] [] (am_hh X S L) _
      refine ax_r rfl rfl rfl ?_
      exact k1 c1 c3
    · refine ax_s (pc' := 8) (st' := [.ref 285]) rfl rfl rfl rfl ?_
      refine ax_s (pc' := 9) (st' := [.int 1, .ref 285]) rfl rfl rfl rfl ?_
      refine ax_put rfl (hh_285 _ _ _) rfl rfl (show 23 + 1 ≤ _ from Nat.le_of_ble_eq_true rfl) rfl (am_hh_set _ _ _ 285 23 _ rfl) ?_
      refine ax_s (pc' := 13) (st' := [.ref 285]) rfl rfl rfl rfl ?_
      refine ax_s (pc' := 14) (st' := [.ref 285, .ref 285]) rfl rfl rfl rfl ?_
      refine ax_get rfl (hh_285 _ _ _) rfl rfl rfl ?_
      show am_ex (d + 4) 162 17 [some (.ref 285), some (.int 1)] [.int (S 285 21), .ref 285] (am_hh X (am_u S 285 23 1) L) _
      refine ax_put rfl (hh_285 _ _ _) rfl rfl (show 22 + 1 ≤ _ from Nat.le_of_ble_eq_true rfl) rfl (am_hh_set _ _ _ 285 22 _ rfl) ?_
      refine ax_r rfl rfl rfl ?_
      show am_ex (d + 5) 165 34 [some (.ref 285), some (.int (pz_kind (pz_by b len a)))] [] (am_hh X (am_u (am_u S 285 23 1) 285 22 (S 285 21)) L) _
      refine ax_r rfl rfl rfl ?_
      exact k2 c1 c3
  · refine ax_s (pc' := 13) (st' := [.ref 285]) rfl rfl rfl rfl ?_
    refine ax_get rfl (hh_285 _ _ _) rfl rfl rfl ?_
    show am_ex (d + 5) 165 16 [some (.ref 285), some (.int (pz_kind (pz_by b len a)))] [.int (S 285 24)] (am_hh X S L) _
    refine ax_s (pc' := 18) (st' := [.int 6, .int (S 285 24)]) rfl rfl rfl rfl ?_
    refine ax_cmp_ne rfl (fun c4 => ?_) (fun c4 => ?_)
    · refine ax_s (pc' := 36) (st' := [.ref 285]) rfl rfl rfl rfl ?_
      refine ax_s (pc' := 37) (st' := [.ref 285, .ref 285]) rfl rfl rfl rfl ?_
      refine ax_get rfl (hh_285 _ _ _) rfl rfl rfl ?_
      show am_ex (d + 5) 165 40 [some (.ref 285), some (.int (pz_kind (pz_by b len a)))] [.int (S 285 21), .ref 285] (am_hh X S L) _
      refine ax_s (pc' := 41) (st' := [.int 1, .int (S 285 21), .ref 285]) rfl rfl rfl rfl ?_
      refine ax_s (pc' := 42) (st' := [.int ((S 285 21) + 1), .ref 285]) rfl rfl rfl rfl ?_
      refine ax_put rfl (hh_285 _ _ _) rfl rfl (show 21 + 1 ≤ _ from Nat.le_of_ble_eq_true rfl) rfl (am_hh_set _ _ _ 285 21 _ rfl) ?_
      refine ax_s (pc' := 46) (st' := [.ref 285]) rfl rfl rfl rfl ?_
      refine ax_get rfl (hh_285 _ _ _) rfl rfl rfl ?_
      show am_ex (d + 5) 165 49 [some (.ref 285), some (.int (pz_kind (pz_by b len a)))] [.ref 301] (am_hh X (am_u S 285 21 ((S 285 21) + 1)) L) _
      refine ax_s (pc' := 50) (st' := [.ref 285, .ref 301]) rfl rfl rfl rfl ?_
      refine ax_get rfl (hh_285 _ _ _) rfl rfl rfl ?_
      show am_ex (d + 5) 165 53 [some (.ref 285), some (.int (pz_kind (pz_by b len a)))] [.int (S 285 24), .ref 301] (am_hh X (am_u S 285 21 ((S 285 21) + 1)) L) _
      refine ax_s (pc' := 54) (st' := [.int (pz_kind (pz_by b len a)), .int (S 285 24), .ref 301]) rfl rfl rfl rfl ?_
      refine ax_ast (j := p) rfl (hh_301 _ _ _) rfl hp (x1 c1 c4) (by decide) (am_hh_set _ _ _ 301 p _ rfl) ?_
      refine ax_s (pc' := 56) (st' := [.ref 285]) rfl rfl rfl rfl ?_
      refine ax_get rfl (hh_285 _ _ _) rfl rfl rfl ?_
      show am_ex (d + 5) 165 59 [some (.ref 285), some (.int (pz_kind (pz_by b len a)))] [.ref 302] (am_hh X (am_u (am_u S 285 21 ((S 285 21) + 1)) 301 p (pz_kind (pz_by b len a))) L) _
      refine ax_s (pc' := 60) (st' := [.ref 285, .ref 302]) rfl rfl rfl rfl ?_
      refine ax_get rfl (hh_285 _ _ _) rfl rfl rfl ?_
      show am_ex (d + 5) 165 63 [some (.ref 285), some (.int (pz_kind (pz_by b len a)))] [.int (S 285 24), .ref 302] (am_hh X (am_u (am_u S 285 21 ((S 285 21) + 1)) 301 p (pz_kind (pz_by b len a))) L) _
      refine ax_s (pc' := 64) (st' := [.ref 285, .int (S 285 24), .ref 302]) rfl rfl rfl rfl ?_
      refine ax_s (pc' := 65) (st' := [.int 1, .ref 285, .int (S 285 24), .ref 302]) rfl rfl rfl rfl ?_
      refine ax_s (pc' := 67) (st' := [.int 9, .int 1, .ref 285, .int (S 285 24), .ref 302]) rfl rfl rfl rfl ?_
      refine ax_call (vs := [.ref 285, .int 1, .int 9]) (rr := [.int (S 285 24), .ref 302]) rfl rfl rfl ?_
      refine mt_number (MP_u (hT (by assumption))) (fun v5 S5 t5 u5 z5 => ?_)
      show am_ex (d + 5) 165 70 [some (.ref 285), some (.int (pz_kind (pz_by b len a)))] [.int v5, .int (S 285 24), .ref 302] (am_hh X S5 L) _
      refine ax_ast (j := p) rfl (hh_302 _ _ _) rfl hp (x1 c1 c4) (by decide) (am_hh_set _ _ _ 302 p _ rfl) ?_
      refine ax_s (pc' := 72) (st' := [.ref 285]) rfl rfl rfl rfl ?_
      refine ax_s (pc' := 74) (st' := [.int 44, .ref 285]) rfl rfl rfl rfl ?_
      refine ax_call (vs := [.ref 285, .int 44]) (rr := []) rfl rfl rfl ?_
      refine mt_sign (MP_u u5) (by decide) (fun S6 t6 u6 => ?_)
      show am_ex (d + 5) 165 77 [some (.ref 285), some (.int (pz_kind (pz_by b len a)))] [] (am_hh X S6 L) _
      refine ax_s (pc' := 78) (st' := [.ref 285]) rfl rfl rfl rfl ?_
      refine ax_get rfl (hh_285 _ _ _) rfl rfl rfl ?_
      show am_ex (d + 5) 165 81 [some (.ref 285), some (.int (pz_kind (pz_by b len a)))] [.ref 303] (am_hh X S6 L) _
      refine ax_s (pc' := 82) (st' := [.ref 285, .ref 303]) rfl rfl rfl rfl ?_
      refine ax_get rfl (hh_285 _ _ _) rfl rfl rfl ?_
      show am_ex (d + 5) 165 85 [some (.ref 285), some (.int (pz_kind (pz_by b len a)))] [.int (S6 285 24), .ref 303] (am_hh X S6 L) _
      refine ax_s (pc' := 86) (st' := [.ref 285, .int (S6 285 24), .ref 303]) rfl rfl rfl rfl ?_
      refine ax_s (pc' := 87) (st' := [.int 1, .ref 285, .int (S6 285 24), .ref 303]) rfl rfl rfl rfl ?_
      refine ax_s (pc' := 88) (st' := [.int 4, .int 1, .ref 285, .int (S6 285 24), .ref 303]) rfl rfl rfl rfl ?_
      refine ax_call (vs := [.ref 285, .int 1, .int 4]) (rr := [.int (S6 285 24), .ref 303]) rfl rfl rfl ?_
      refine mt_number u6 (fun v7 S7 t7 u7 z7 => ?_)
      show am_ex (d + 5) 165 91 [some (.ref 285), some (.int (pz_kind (pz_by b len a)))] [.int v7, .int (S6 285 24), .ref 303] (am_hh X S7 L) _
      refine ax_ast (j := p) rfl (hh_303 _ _ _) rfl (mg_p (S := (am_u S5 302 p v5)) (S1 := S6) t6 (show (am_u S5 302 p v5) 285 24 = nI p from (mg_p (S := (am_u (am_u S 285 21 ((S 285 21) + 1)) 301 p (pz_kind (pz_by b len a)))) (S1 := S5) t5 (show (am_u (am_u S 285 21 ((S 285 21) + 1)) 301 p (pz_kind (pz_by b len a))) 285 24 = nI p from hp)))) (x1 c1 c4) (by decide) (am_hh_set _ _ _ 303 p _ rfl) ?_
      refine ax_s (pc' := 93) (st' := [.ref 285]) rfl rfl rfl rfl ?_
      refine ax_s (pc' := 95) (st' := [.int 59, .ref 285]) rfl rfl rfl rfl ?_
      refine ax_call (vs := [.ref 285, .int 59]) (rr := []) rfl rfl rfl ?_
      refine mt_sign (MP_u u7) (by decide) (fun S8 t8 u8 => ?_)
      show am_ex (d + 5) 165 98 [some (.ref 285), some (.int (pz_kind (pz_by b len a)))] [] (am_hh X S8 L) _
      refine ax_s (pc' := 99) (st' := [.ref 285]) rfl rfl rfl rfl ?_
      refine ax_s (pc' := 100) (st' := [.ref 285, .ref 285]) rfl rfl rfl rfl ?_
      refine ax_get rfl (hh_285 _ _ _) rfl rfl rfl ?_
      show am_ex (d + 5) 165 103 [some (.ref 285), some (.int (pz_kind (pz_by b len a)))] [.int (S8 285 24), .ref 285] (am_hh X S8 L) _
      refine ax_s (pc' := 104) (st' := [.int 1, .int (S8 285 24), .ref 285]) rfl rfl rfl rfl ?_
      refine ax_s (pc' := 105) (st' := [.int ((S8 285 24) + 1), .ref 285]) rfl rfl rfl rfl ?_
      refine ax_put rfl (hh_285 _ _ _) rfl rfl (show 24 + 1 ≤ _ from Nat.le_of_ble_eq_true rfl) rfl (am_hh_set _ _ _ 285 24 _ rfl) ?_
      refine ax_r rfl rfl rfl ?_
      exact k3 c1 c4 v5 S5 t5 u5 z5 S6 t6 u6 v7 S7 t7 u7 z7 S8 t8 u8
    · refine ax_s (pc' := 22) (st' := [.ref 285]) rfl rfl rfl rfl ?_
      refine ax_s (pc' := 23) (st' := [.int (pz_kind (pz_by b len a)), .ref 285]) rfl rfl rfl rfl ?_
      refine ax_if_ne rfl (fun c9 => ?_) (fun c9 => False.elim (by first | exact c9 c1 | exact c1 c9))
      refine ax_s (pc' := 31) (st' := [.int 3, .ref 285]) rfl rfl rfl rfl ?_
      refine ax_call (vs := [.ref 285, .int 3]) (rr := []) rfl rfl rfl ?_
      refine ax_in (ls := [some (.ref 285), some (.int 3)]) rfl ?_
      refine ax_s (pc' := 1) (st' := [.ref 285]) rfl rfl rfl rfl ?_
      refine ax_get rfl (hh_285 _ _ _) rfl rfl rfl ?_
      show am_ex (d + 4) 162 4 [some (.ref 285), some (.int 3)] [.int (S 285 23)] (am_hh X S L) _
      refine ax_if_ne rfl (fun c10 => ?_) (fun c10 => ?_)
      · refine ax_r rfl rfl rfl ?_
        show am_ex (d + 5) 165 34 [some (.ref 285), some (.int (pz_kind (pz_by b len a)))] [] (am_hh X S L) _
        refine ax_r rfl rfl rfl ?_
        exact k4 c1 c4 c10
      · refine ax_s (pc' := 8) (st' := [.ref 285]) rfl rfl rfl rfl ?_
        refine ax_s (pc' := 9) (st' := [.int 3, .ref 285]) rfl rfl rfl rfl ?_
        refine ax_put rfl (hh_285 _ _ _) rfl rfl (show 23 + 1 ≤ _ from Nat.le_of_ble_eq_true rfl) rfl (am_hh_set _ _ _ 285 23 _ rfl) ?_
        refine ax_s (pc' := 13) (st' := [.ref 285]) rfl rfl rfl rfl ?_
        refine ax_s (pc' := 14) (st' := [.ref 285, .ref 285]) rfl rfl rfl rfl ?_
        refine ax_get rfl (hh_285 _ _ _) rfl rfl rfl ?_
        show am_ex (d + 4) 162 17 [some (.ref 285), some (.int 3)] [.int (S 285 21), .ref 285] (am_hh X (am_u S 285 23 3) L) _
        refine ax_put rfl (hh_285 _ _ _) rfl rfl (show 22 + 1 ≤ _ from Nat.le_of_ble_eq_true rfl) rfl (am_hh_set _ _ _ 285 22 _ rfl) ?_
        refine ax_r rfl rfl rfl ?_
        show am_ex (d + 5) 165 34 [some (.ref 285), some (.int (pz_kind (pz_by b len a)))] [] (am_hh X (am_u (am_u S 285 23 3) 285 22 (S 285 21)) L) _
        refine ax_r rfl rfl rfl ?_
        exact k5 c1 c4 c10
