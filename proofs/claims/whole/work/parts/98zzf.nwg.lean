/-! new int[n][k] over the abstract machine, by am_multi. -/
theorem am_nwg_ok : am_nwgP := by
  intro G p l e R s m args below meth c n0 s0 y Q X harr pc idx z hd hch ls st h r hs hrc hrs k
  obtain ⟨hx, hb, hml, hown, hts, hK, hF, hN, hz, hin⟩ := X
  unfold am_nwg at hs
  split at hs
  · rename_i kk n r0
    split at hs
    · cases hs
    · rename_i hcond
      cases hs
      intro Ls H locs cells slots hl hM hS hc hsl
      have r1 : h.2.1 + 1 + n.toNatClampNeg ≤ R.cells + n0 := hrc
      have r2 : h.2.2 + n.toNatClampNeg + n.toNatClampNeg * kk.toNatClampNeg ≤ R.slots + s0 := hrs
      have h1 : ¬ n < 0 := fun q => hcond (Or.inl q)
      have h2 : ¬ kk < 0 := fun q => hcond (Or.inr (Or.inl q))
      have h3 : n.toNatClampNeg ≤ 1000 := Nat.le_of_not_lt fun q => hcond (Or.inr (Or.inr (Or.inl q)))
      have h4 : kk.toNatClampNeg ≤ 1000 := Nat.le_of_not_lt fun q => hcond (Or.inr (Or.inr (Or.inr q)))
      refine am_size fun hu => ?_
      have hlo := am_lo hM.1 hS hz
      have hsz : H.size = G.2.2.1 + h.2.1 := by omega
      intro T hT Xs
      obtain ⟨cA, comp, vm₁, F, fA, fC, ⟨f1, hold, f2, hrow, -, -⟩, X', step⟩ := am_multi Xs hx hown (hts _ (am_qz_tb hch)) hN.2.2 harr.1 (g := F0 m pc Ls (.int kk :: .int n :: r0.map (am_cv G))) rfl (by rw [hb]; exact hd) rfl h1 h2 h3 h4 (by omega) (by omega)
      have eA : cA = G.2.2.2.1 3 := Option.some.inj (fA.symm.trans (hK.2 3 _ rfl).2)
      have eC : comp = G.2.2.2.1 0 := Option.some.inj (fC.symm.trans (hK.2 0 _ rfl).2)
      subst eA
      subst eC
      rw [hT] at f1 hold f2 hrow
      have had : ∀ j, am_ad G (h.2.1 + 6 + j) = H.size + 1 + j := fun j => by
        rw [am_ad_m (by omega), hsz]; omega
      have hP : va_P G.1 am_cl (am_w G ((fun a => if a = h.2.1 + 5 then .inr (.inr (1, n.toNatClampNeg, fun i => if i < n.toNatClampNeg then some (h.2.1 + 6 + i) else none)) else if h.2.1 + 5 < a ∧ a < h.2.1 + 6 + n.toNatClampNeg then .inr (.inl (0, kk.toNatClampNeg, fun _ => 0)) else h.1 a, h.2.1 + 1 + n.toNatClampNeg, h.2.2 + n.toNatClampNeg + n.toNatClampNeg * kk.toNatClampNeg) : am_H)) F.heap := by
        intro k9 q hq
        obtain ⟨k1, rfl⟩ := am_w_some hq
        have k2 : k9 < h.2.1 + 1 + n.toNatClampNeg := k1
        dsimp only
        by_cases c1 : k9 < h.2.1
        · rw [if_neg (by omega), if_neg (by omega)]
          have ho := hM.1 k9 _ (am_w_k G h c1)
          exact ho.kept (hold _ ho.lt)
        · by_cases c2 : k9 = h.2.1
          · subst c2
            rw [if_pos rfl]
            show F.heap[G.2.2.1 + h.2.1]? = some (vp_cell (G.2.2.2.1 3) (n.toNatClampNeg, .inr (.inr (.inr (.inr (fun i => (if i < n.toNatClampNeg then some (h.2.1 + 6 + i) else none).map (am_ad G)))))))
            rw [vp_cell_q, ← hsz, f2]
            congr 2
            funext j
            congr 1
            split
            · rw [Option.map_some, had]
            · rfl
          · rw [if_neg (by omega), if_pos (by omega)]
            show F.heap[G.2.2.1 + k9]? = some (vp_cell (G.2.2.2.1 0) (kk.toNatClampNeg, .inl (fun _ => 0)))
            have := hrow (k9 - h.2.1 - 1) (by omega)
            rw [show H.size + 1 + (k9 - h.2.1 - 1) = G.2.2.1 + k9 by omega] at this
            exact this
      have hS2 : va_S (am_A G) s.heap F.heap locs := ⟨by rw [f1]; have := hS.1; omega, fun x a1 a2 => (hold x (Nat.lt_of_lt_of_le a1 hS.1)).trans (hS.2.1 x a1 a2), hS.2.2⟩
      obtain ⟨t, a1, b1⟩ := k Ls F.heap locs (cells + 1 + n.toNatClampNeg) (slots + n.toNatClampNeg + n.toNatClampNeg * kk.toNatClampNeg) hl ⟨hP, fun k9 hk9 => by
        show (if k9 = h.2.1 + 5 then _ else if h.2.1 + 5 < k9 ∧ k9 < h.2.1 + 6 + n.toNatClampNeg then _ else h.1 k9) = _
        rw [if_neg (by omega), if_neg (by omega)]
        exact hM.2 k9 hk9⟩ hS2 (by show cells + 1 + n.toNatClampNeg + n0 = h.2.1 + 1 + n.toNatClampNeg; omega) (by show slots + n.toNatClampNeg + n.toNatClampNeg * kk.toNatClampNeg + s0 = h.2.2 + n.toNatClampNeg + n.toNatClampNeg * kk.toNatClampNeg; omega) F rfl X'
      refine ⟨t, step t ?_, b1⟩
      have e : am_cv G (.ref (h.2.1 + 5)) = .ref T.heap.size := by
        show Value.ref (am_ad G (h.2.1 + 5)) = _
        rw [am_ad_m (by omega), hT, hsz]
        congr 1
      rw [List.map_cons, e] at a1
      exact a1
  · cases hs
