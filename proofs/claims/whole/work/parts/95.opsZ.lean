theorem rfs_0 {a w : Int32} (h : rfs a w = 0) : a = w := by
  unfold rfs at h
  by_cases e : a = -1
  · rw [if_pos e] at h; exact absurd h (by decide)
  · rw [if_neg e] at h
    by_cases e2 : a = w
    · exact e2
    · rw [if_neg e2] at h; exact absurd h (by decide)
theorem nn_ex {z : Int32} (h : ¬ z < 0) : ∃ i, z = nI i ∧ i < 2147483648 := by
  have h1 := Int32.le_iff_toInt_le.mp (Int32.not_lt.mp h)
  have h1 : (0 : Int) ≤ z.toInt := h1
  have h2 := z.toInt_lt
  refine ⟨z.toInt.toNat, Int32.toInt_inj.mp ?_, by omega⟩
  rw [nI_toInt (by omega)]
  omega
theorem op_book {l : Launch} {dp : Nat} {I : hI} {J : hJ} {lt tx : Option Nat} {x : Int32} {y : Int32} {z : Int32} {w : Int32} {Q : hQ} (hI : INV I J lt) (hQ : ∀ (rv : Int32) I1 J1 lt1 tx1, ret2 l mX12_book dp [.ref 82, .int x, .int y, .int z, .int w] (.int rv) I1 J1 lt1 tx1 → Q (some (.int rv)) hSH I1 J1 (hRR lt1 tx1)) : HC l mX11_book (dp + 20) 0 0 [.ref 0, .int x, .int y, .int z, .int w] hSH I J (hRR lt tx) Q := by
  obtain ⟨⟨ns, nl, np, ml, nk, nw, pl, fa, fb, sl, pp, pm, ki, fr, tg, wh, bw, rs, sn, fl, qw, hc, hr⟩, hW, ⟨so, si, it, hcS, hrS⟩, hT, hH, hA, hK⟩ := hI
  by_cases ok : isIx x ns ∧ sh4 y ∧ nI 0 ≤ w ∧ w ≤ nI 8
  · obtain ⟨⟨s, hs, rfl⟩, hy4, hw8⟩ := ok
    obtain ⟨t, rfl, -, ht3⟩ := rng_ex (by omega) (by omega) hy4.1 hy4.2
    by_cases h0 : rfs (so t) (nI 1) = 0
    · have hso : so t = nI 1 := rfs_0 h0
      obtain ⟨n, rfl, -, hn8⟩ := rng_ex (by omega) (by omega) hw8.1 hw8.2
      by_cases hz : z < 0
      · refine c_bookM hc hcS hs (by omega) hn8 hso hz ?_
        refine hQ _ _ _ _ _ (fun Q2 hQ2 => ?_)
        exact r_bookM hr hrS hs (by omega) hn8 hso hz (hQ2 _ _ _ _ ⟨⟨ns, nl, np, ml, nk, nw, pl, fa, fb, sl, pp, pm, ki, fr, tg, wh, bw, rs, sn, fl, qw, hc, hr⟩, hW, ⟨so, si, it, hcS, hrS⟩, hT, hH, hA, hK⟩)
      · obtain ⟨i, rfl, hi⟩ := nn_ex hz
        refine c_book hc hcS hs (by omega) hi hn8 hso (fun I1 hB1 hc1 => ?_)
        obtain ⟨g20, g21, g22, g23, g24, v6, v12, rfl⟩ := hB1
        refine hQ _ _ _ _ _ (fun Q2 hQ2 => ?_)
        refine r_book (show rG _ ns nl np ml nk nw pl fa fb sl pp pm ki fr tg wh bw rs sn fl qw from hr) (show rSh _ _ so si it from hrS) hs (by omega) hi hn8 hso (fun I2 hB2 hr2 => ?_)
        obtain ⟨g86, v7, rfl⟩ := hB2
        exact hQ2 _ _ _ _ ⟨⟨ns, nl, np, ml, nk + bkN np nk (fun q => (it t (i + q)).toInt32) (if si t - i < n then si t - i else n), nw, pl, fa, fb, sl, pp, pm, bkU np nk (fun q => (it t (i + q)).toInt32) (fun _ => 2) ki (if si t - i < n then si t - i else n), bkU np nk (fun q => (it t (i + q)).toInt32) (fun _ => s) fr (if si t - i < n then si t - i else n), bkU np nk (fun q => (it t (i + q)).toInt32) (fun q => q) tg (if si t - i < n then si t - i else n), bkU np nk (fun q => (it t (i + q)).toInt32) (fun _ => 1220) wh (if si t - i < n then si t - i else n), bw, rs, bkD np nk (fun q => (it t (i + q)).toInt32) sn (if si t - i < n then si t - i else n), bkT np nk (fun q => (it t (i + q)).toInt32) fl (if si t - i < n then si t - i else n), qw, hc1, hr2⟩, hW, ⟨so, si, it, hcS, hrS⟩, hT, hH, hA, hK⟩
    · refine c_bookR hc hcS hs (by omega) hw8 h0 ?_
      refine hQ _ _ _ _ _ (fun Q2 hQ2 => ?_)
      exact r_bookR hr hrS hs (by omega) hw8 h0 (hQ2 _ _ _ _ ⟨⟨ns, nl, np, ml, nk, nw, pl, fa, fb, sl, pp, pm, ki, fr, tg, wh, bw, rs, sn, fl, qw, hc, hr⟩, hW, ⟨so, si, it, hcS, hrS⟩, hT, hH, hA, hK⟩)
  · refine c_bookB hc ok ?_
    refine hQ _ _ _ _ _ (fun Q2 hQ2 => ?_)
    exact r_bookB hr ok (hQ2 _ _ _ _ ⟨⟨ns, nl, np, ml, nk, nw, pl, fa, fb, sl, pp, pm, ki, fr, tg, wh, bw, rs, sn, fl, qw, hc, hr⟩, hW, ⟨so, si, it, hcS, hrS⟩, hT, hH, hA, hK⟩)
theorem cH_set {I I2 : hI} {sk : Nat → Nat} {sm sz : Nat → Int32} {s k : Nat} {m z : Int32} (hH : cH I sk sm sz) (a1 : ∀ t, t ≠ s → I2 66 t = I 66 t) (a2 : ∀ t, t ≠ s → I2 67 t = I 67 t) (a3 : ∀ t, t ≠ s → I2 68 t = I 68 t) (hk : k ≤ 3) (b1 : I2 66 s = nI k) (b2 : k ≤ 2 → I2 67 s = m) (b3 : k = 2 → I2 68 s = z ∧ ∃ q, q ≤ 3 ∧ m = nI q) : cH I2 (upn sk s k) (upd sm s m) (upd sz s z) := by
  intro t ht
  by_cases e : t = s
  · subst e
    rw [upn_s, upd_s, upd_s]
    exact ⟨hk, b1, b2, b3⟩
  · rw [upn_n _ _ e, upd_n _ _ e, upd_n _ _ e, a1 t e, a2 t e, a3 t e]
    exact hH t ht
theorem rH_set {I I2 : hI} {sk : Nat → Nat} {sm sz : Nat → Int32} {s k : Nat} {m z : Int32} (hH : rH I sk sm sz) (a1 : ∀ t, t ≠ s → I2 107 t = I 107 t) (a2 : ∀ t, t ≠ s → I2 108 t = I 108 t) (a3 : ∀ t, t ≠ s → I2 109 t = I 109 t) (hk : k ≤ 3) (b1 : I2 107 s = (if k = 3 then -1 else nI k)) (b2 : k ≤ 2 → I2 108 s = m) (b3 : k = 2 → I2 109 s = z ∧ ∃ q, q ≤ 3 ∧ m = nI q) : rH I2 (upn sk s k) (upd sm s m) (upd sz s z) := by
  intro t ht
  by_cases e : t = s
  · subst e
    rw [upn_s, upd_s, upd_s]
    exact ⟨hk, b1, b2, b3⟩
  · rw [upn_n _ _ e, upd_n _ _ e, upd_n _ _ e, a1 t e, a2 t e, a3 t e]
    exact hH t ht
theorem th_of {nk np : Nat} {w n : Int32} (h : (w = nI 0 ∧ isIx n nk) ∨ (w = nI 1 ∧ isIx n np) ∨ w = nI 3) : thP nk np w n := by
  rcases h with h | h | h
  · exact .inl h
  · exact .inr (.inl h)
  · exact .inr (.inr (.inr h))
theorem th_2 {nk np : Nat} {w n : Int32} (h : (w = nI 0 ∧ isIx n nk) ∨ (w = nI 1 ∧ isIx n np) ∨ w = nI 3) (h2 : w = nI 2) : False := by
  rcases h with h | h | h
  · exact absurd (h.1.symm.trans h2) (by decide)
  · exact absurd (h.1.symm.trans h2) (by decide)
  · exact absurd (h.symm.trans h2) (by decide)
theorem so_k {w : Int32} (h : soW w) (h1 : ¬ w = -1) : ∃ q, q ≤ 3 ∧ w = nI q := by
  rcases h with h | h | h | h | h
  · exact absurd h h1
  · exact ⟨0, by omega, h⟩
  · exact ⟨1, by omega, h⟩
  · exact ⟨2, by omega, h⟩
  · exact ⟨3, by omega, h⟩
theorem op_shelf {l : Launch} {dp : Nat} {I : hI} {J : hJ} {lt tx : Option Nat} {x : Int32} {w : Int32} {n : Int32} {Q : hQ} (hI : INV I J lt) (hQ : ∀ (rv : Int32) I1 J1 lt1 tx1, ret2 l mX12_shelf dp [.ref 82, .int x, .int w, .int n] (.int rv) I1 J1 lt1 tx1 → Q (some (.int rv)) hSH I1 J1 (hRR lt1 tx1)) : HC l mX11_shelf (dp + 20) 0 0 [.ref 0, .int x, .int w, .int n] hSH I J (hRR lt tx) Q := by
  obtain ⟨⟨ns, nl, np, ml, nk, nw, pl, fa, fb, sl, pp, pm, ki, fr, tg, wh, bw, rs, sn, fl, qw, hc, hr⟩, hW, ⟨so, si, it, hcS, hrS⟩, hT, ⟨sk, sm, sz, hcH, hrH⟩, hA, hK⟩ := hI
  obtain ⟨hcNF, hw, hcV, hvw, hcL⟩ := id hc
  obtain ⟨k6, k12, kW, k99, kr⟩ := id hw
  obtain ⟨k8, k2, k24, kP, kS⟩ := id hvw
  refine c_shelf hc hcS (fun nb => ?_) (fun s hx hs hd => ?_) (fun s t hx hn hs ht hw2 hso => ?_) (fun s t hx hn hs ht hw2 hso => ?_)
  · refine hQ _ _ _ _ _ (fun Q2 hQ2 => ?_)
    exact r_shelf hr hrS (fun _ => hQ2 _ _ _ _ ⟨⟨ns, nl, np, ml, nk, nw, pl, fa, fb, sl, pp, pm, ki, fr, tg, wh, bw, rs, sn, fl, qw, hc, hr⟩, hW, ⟨so, si, it, hcS, hrS⟩, hT, ⟨sk, sm, sz, hcH, hrH⟩, hA, hK⟩) (fun s hx hs hd => absurd ⟨rng_in hx (Nat.zero_le _) (show s ≤ 3 by omega) (by omega), th_of hd⟩ nb) (fun s t hx hn hs ht hw2 _ => absurd ⟨rng_in hx (Nat.zero_le _) (show s ≤ 3 by omega) (by omega), .inr (.inr (.inl ⟨hw2, rng_in hn (Nat.zero_le _) (show t ≤ 3 by omega) (by omega)⟩))⟩ nb) (fun s t hx hn hs ht hw2 _ => absurd ⟨rng_in hx (Nat.zero_le _) (show s ≤ 3 by omega) (by omega), .inr (.inr (.inl ⟨hw2, rng_in hn (Nat.zero_le _) (show t ≤ 3 by omega) (by omega)⟩))⟩ nb)
  · refine hQ _ _ _ _ _ (fun Q2 hQ2 => ?_)
    refine r_shelf (show rG _ ns nl np ml nk nw pl fa fb sl pp pm ki fr tg wh bw rs sn fl qw from hr) (show rSh _ _ so si it from hrS) (fun nb => absurd ⟨rng_in hx (Nat.zero_le _) (show s ≤ 3 by omega) (by omega), th_of hd⟩ nb) (fun s2 hx2 hs2 _ => ?_) (fun s2 t hx2 hn hs2 ht hw2 _ => (th_2 hd hw2).elim) (fun s2 t hx2 hn hs2 ht hw2 _ => (th_2 hd hw2).elim)
    obtain rfl := nI_u hx hx2 (by omega) (by omega)
    rcases hd with ⟨rfl, -⟩ | ⟨rfl, -⟩ | rfl
    · exact hQ2 _ _ _ _ ⟨⟨ns, nl, np, ml, nk, nw, pl, fa, fb, sl, pp, pm, ki, fr, tg, wh, bw, rs, sn, fl, qw, hc, hr⟩, hW, ⟨so, si, it, hcS, hrS⟩, hT, ⟨_, _, _, cH_set (s := s2) (k := 0) (m := n) (z := 0) hcH (fun q hq => by simp [upI, upd, hq]) (fun q hq => by simp [upI, upd, hq]) (fun q hq => by simp [upI, upd, hq]) (by omega) (by simp [upI, upd] <;> decide) (fun _ => (by simp [upI, upd] <;> decide)) (fun z => absurd z (by omega)), rH_set (s := s2) (k := 0) (m := n) (z := 0) hrH (fun q hq => by simp [upI, upd, hq]) (fun q hq => by simp [upI, upd, hq]) (fun q hq => by simp [upI, upd, hq]) (by omega) (by simp [upI, upd] <;> decide) (fun _ => (by simp [upI, upd] <;> decide)) (fun z => absurd z (by omega))⟩, hA, hK⟩
    · exact hQ2 _ _ _ _ ⟨⟨ns, nl, np, ml, nk, nw, pl, fa, fb, sl, pp, pm, ki, fr, tg, wh, bw, rs, sn, fl, qw, hc, hr⟩, hW, ⟨so, si, it, hcS, hrS⟩, hT, ⟨_, _, _, cH_set (s := s2) (k := 1) (m := n) (z := 0) hcH (fun q hq => by simp [upI, upd, hq]) (fun q hq => by simp [upI, upd, hq]) (fun q hq => by simp [upI, upd, hq]) (by omega) (by simp [upI, upd] <;> decide) (fun _ => (by simp [upI, upd] <;> decide)) (fun z => absurd z (by omega)), rH_set (s := s2) (k := 1) (m := n) (z := 0) hrH (fun q hq => by simp [upI, upd, hq]) (fun q hq => by simp [upI, upd, hq]) (fun q hq => by simp [upI, upd, hq]) (by omega) (by simp [upI, upd] <;> decide) (fun _ => (by simp [upI, upd] <;> decide)) (fun z => absurd z (by omega))⟩, hA, hK⟩
    · exact hQ2 _ _ _ _ ⟨⟨ns, nl, np, ml, nk, nw, pl, fa, fb, sl, pp, pm, ki, fr, tg, wh, bw, rs, sn, fl, qw, hc, hr⟩, hW, ⟨so, si, it, hcS, hrS⟩, hT, ⟨_, _, _, cH_set (s := s2) (k := 3) (m := 0) (z := 0) hcH (fun q hq => by simp [upI, upd, hq]) (fun q hq => by simp [upI, upd, hq]) (fun q hq => by simp [upI, upd, hq]) (by omega) (by simp [upI, upd] <;> decide) (fun z => absurd z (by omega)) (fun z => absurd z (by omega)), rH_set (s := s2) (k := 3) (m := 0) (z := 0) hrH (fun q hq => by simp [upI, upd, hq]) (fun q hq => by simp [upI, upd, hq]) (fun q hq => by simp [upI, upd, hq]) (by omega) (by simp [upI, upd] <;> decide) (fun z => absurd z (by omega)) (fun z => absurd z (by omega))⟩, hA, hK⟩
  · refine hQ _ _ _ _ _ (fun Q2 hQ2 => ?_)
    refine r_shelf (show rG _ ns nl np ml nk nw pl fa fb sl pp pm ki fr tg wh bw rs sn fl qw from hr) (show rSh _ _ so si it from hrS) (fun nb => absurd ⟨rng_in hx (Nat.zero_le _) (show s ≤ 3 by omega) (by omega), .inr (.inr (.inl ⟨hw2, rng_in hn (Nat.zero_le _) (show t ≤ 3 by omega) (by omega)⟩))⟩ nb) (fun s2 hx2 hs2 hd => (th_2 hd hw2).elim) (fun s2 t2 hx2 hn2 hs2 ht2 _ _ => ?_) (fun s2 t2 hx2 hn2 hs2 ht2 _ hno => ?_)
    · obtain rfl := nI_u hx hx2 (by omega) (by omega)
      exact hQ2 _ _ _ _ ⟨⟨ns, nl, np, ml, nk, nw, pl, fa, fb, sl, pp, pm, ki, fr, tg, wh, bw, rs, sn, fl, qw, hc, hr⟩, hW, ⟨so, si, it, hcS, hrS⟩, hT, ⟨_, _, _, cH_set (s := s2) (k := 3) (m := 0) (z := 0) hcH (fun q hq => by simp [upI, upd, hq]) (fun q hq => by simp [upI, upd, hq]) (fun q hq => by simp [upI, upd, hq]) (by omega) (by simp [upI, upd] <;> decide) (fun z => absurd z (by omega)) (fun z => absurd z (by omega)), rH_set (s := s2) (k := 3) (m := 0) (z := 0) hrH (fun q hq => by simp [upI, upd, hq]) (fun q hq => by simp [upI, upd, hq]) (fun q hq => by simp [upI, upd, hq]) (by omega) (by simp [upI, upd] <;> decide) (fun z => absurd z (by omega)) (fun z => absurd z (by omega))⟩, hA, hK⟩
    · obtain rfl := nI_u hn hn2 (by omega) (by omega)
      exact absurd hso hno
  · refine hQ _ _ _ _ _ (fun Q2 hQ2 => ?_)
    refine r_shelf (show rG _ ns nl np ml nk nw pl fa fb sl pp pm ki fr tg wh bw rs sn fl qw from hr) (show rSh _ _ so si it from hrS) (fun nb => absurd ⟨rng_in hx (Nat.zero_le _) (show s ≤ 3 by omega) (by omega), .inr (.inr (.inl ⟨hw2, rng_in hn (Nat.zero_le _) (show t ≤ 3 by omega) (by omega)⟩))⟩ nb) (fun s2 hx2 hs2 hd => (th_2 hd hw2).elim) (fun s2 t2 hx2 hn2 hs2 ht2 _ hno => ?_) (fun s2 t2 hx2 hn2 hs2 ht2 _ _ => ?_)
    · obtain rfl := nI_u hn hn2 (by omega) (by omega)
      exact absurd hno hso
    · obtain rfl := nI_u hx hx2 (by omega) (by omega)
      obtain rfl := nI_u hn hn2 (by omega) (by omega)
      subst hw2
      have hq := so_k (hcS t2 ht2).2.2.2.1 hso
      exact hQ2 _ _ _ _ ⟨⟨ns, nl, np, ml, nk, nw, pl, fa, fb, sl, pp, pm, ki, fr, tg, wh, bw, rs, sn, fl, qw, hc, hr⟩, hW, ⟨so, si, it, hcS, hrS⟩, hT, ⟨_, _, _, cH_set (s := s2) (k := 2) (m := so t2) (z := nI (si t2)) hcH (fun q hq => by simp [upI, upd, hq]) (fun q hq => by simp [upI, upd, hq]) (fun q hq => by simp [upI, upd, hq]) (by omega) (by simp [upI, upd] <;> decide) (fun _ => (by simp [upI, upd] <;> decide)) (fun _ => ⟨by simp [upI, upd], hq⟩), rH_set (s := s2) (k := 2) (m := so t2) (z := nI (si t2)) hrH (fun q hq => by simp [upI, upd, hq]) (fun q hq => by simp [upI, upd, hq]) (fun q hq => by simp [upI, upd, hq]) (by omega) (by simp [upI, upd] <;> decide) (fun _ => (by simp [upI, upd] <;> decide)) (fun _ => ⟨by simp [upI, upd], hq⟩)⟩, hA, hK⟩
theorem noT_0 {nk np k : Nat} {sk : Nat → Nat} {sm : Nat → Int32} {s : Nat} (h : noT nk np sk sm s) (e0 : sk s = 0) (hk : k < nk) (e9 : sm s = nI k) : False := by
  rcases h with h | h | h
  · omega
  · exact h.2 ⟨k, hk, e9⟩
  · omega
theorem noT_1 {nk np k : Nat} {sk : Nat → Nat} {sm : Nat → Int32} {s : Nat} (h : noT nk np sk sm s) (e0 : sk s = 1) (hk : k < np) (e9 : sm s = nI k) : False := by
  rcases h with h | h | h
  · omega
  · omega
  · exact h.2 ⟨k, hk, e9⟩
theorem noT_2 {nk np : Nat} {sk : Nat → Nat} {sm : Nat → Int32} {s : Nat} (h : noT nk np sk sm s) (e0 : sk s = 2) : False := by
  rcases h with h | h | h <;> omega
theorem op_taken {l : Launch} {dp : Nat} {I : hI} {J : hJ} {lt tx : Option Nat} {x : Int32} {w : Int32} {Q : hQ} (hI : INV I J lt) (hQ : ∀ (rv : Int32) I1 J1 lt1 tx1, ret2 l mX12_taken dp [.ref 82, .int x, .int w] (.int rv) I1 J1 lt1 tx1 → Q (some (.int rv)) hSH I1 J1 (hRR lt1 tx1)) : HC l mX11_taken (dp + 20) 0 0 [.ref 0, .int x, .int w] hSH I J (hRR lt tx) Q := by
  obtain ⟨⟨ns, nl, np, ml, nk, nw, pl, fa, fb, sl, pp, pm, ki, fr, tg, wh, bw, rs, sn, fl, qw, hc, hr⟩, hW, hS, hT, ⟨sk, sm, sz, hcH, hrH⟩, hA, hK⟩ := hI
  obtain ⟨hcNF, hw, hcV, hvw, hcL⟩ := id hc
  obtain ⟨k6, k12, kW, k99, kr⟩ := id hw
  obtain ⟨k8, k2, k24, kP, kS⟩ := id hvw
  refine c_taken hc hcH (fun nb => ?_) (fun s hx hs ok hno => ?_) (fun s k hx hs ok hk e0 e9 => ⟨fun hu => ?_, fun hu => ?_⟩) (fun s p hx hs ok hp e0 e9 => ⟨fun hu => ?_, fun hu => ?_⟩) (fun s hx hs ok e2 => ⟨fun hu => ⟨fun hy => ?_, fun hy => ?_⟩, fun hu => ?_⟩)
  · refine hQ _ _ _ _ _ (fun Q2 hQ2 => ?_)
    exact r_taken hr hrH (fun _ => hQ2 _ _ _ _ ⟨⟨ns, nl, np, ml, nk, nw, pl, fa, fb, sl, pp, pm, ki, fr, tg, wh, bw, rs, sn, fl, qw, hc, hr⟩, hW, hS, hT, ⟨sk, sm, sz, hcH, hrH⟩, hA, hK⟩) (fun s _ _ ok => absurd ok nb) (fun s k _ _ ok => absurd ok nb) (fun s p _ _ ok => absurd ok nb) (fun s _ _ ok => absurd ok nb)
  · refine hQ _ _ _ _ _ (fun Q2 hQ2 => ?_)
    refine r_taken hr hrH (fun nb => absurd ok nb) (fun s2 hx2 hs2 _ hno2 => ?_) (fun s2 k2 hx2 hs2 _ hk2 e02 e92 => ?_) (fun s2 p2 hx2 hs2 _ hp2 e02 e92 => ?_) (fun s2 hx2 hs2 _ e22 => ?_)
    · obtain rfl := nI_u hx hx2 (by omega) (by omega)
      exact hQ2 _ _ _ _ ⟨⟨ns, nl, np, ml, nk, nw, pl, fa, fb, sl, pp, pm, ki, fr, tg, wh, bw, rs, sn, fl, qw, hc, hr⟩, hW, hS, hT, ⟨sk, sm, sz, hcH, hrH⟩, hA, hK⟩
    · obtain rfl := nI_u hx hx2 (by omega) (by omega)
      exact (noT_0 hno e02 hk2 e92).elim
    · obtain rfl := nI_u hx hx2 (by omega) (by omega)
      exact (noT_1 hno e02 hp2 e92).elim
    · obtain rfl := nI_u hx hx2 (by omega) (by omega)
      exact (noT_2 hno e22).elim
  · refine hQ _ _ _ _ _ (fun Q2 hQ2 => ?_)
    refine r_taken hr hrH (fun nb => absurd ok nb) (fun s2 hx2 hs2 _ hno2 => ?_) (fun s2 k2 hx2 hs2 _ hk2 e02 e92 => ?_) (fun s2 p2 hx2 hs2 _ hp2 e02 e92 => ?_) (fun s2 hx2 hs2 _ e22 => ?_)
    · obtain rfl := nI_u hx hx2 (by omega) (by omega)
      exact (noT_0 hno2 e0 hk e9).elim
    · obtain rfl := nI_u hx hx2 (by omega) (by omega)
      obtain rfl := nI_u e9 e92 (by omega) (by omega)
      exact ⟨fun _ => hQ2 _ _ _ _ ⟨⟨ns, nl, np, ml, nk, nw, pl, fa, fb, sl, pp, pm, ki, fr, tg, wh, bw, rs, sn, fl, qw, hc, hr⟩, hW, hS, hT, ⟨sk, sm, sz, hcH, hrH⟩, hA, hK⟩, fun z => absurd hu z⟩
    · obtain rfl := nI_u hx hx2 (by omega) (by omega)
      omega
    · obtain rfl := nI_u hx hx2 (by omega) (by omega)
      omega
  · refine hQ _ _ _ _ _ (fun Q2 hQ2 => ?_)
    refine r_taken hr hrH (fun nb => absurd ok nb) (fun s2 hx2 hs2 _ hno2 => ?_) (fun s2 k2 hx2 hs2 _ hk2 e02 e92 => ?_) (fun s2 p2 hx2 hs2 _ hp2 e02 e92 => ?_) (fun s2 hx2 hs2 _ e22 => ?_)
    · obtain rfl := nI_u hx hx2 (by omega) (by omega)
      exact (noT_0 hno2 e0 hk e9).elim
    · obtain rfl := nI_u hx hx2 (by omega) (by omega)
      obtain rfl := nI_u e9 e92 (by omega) (by omega)
      exact ⟨fun z => absurd z hu, fun _ => hQ2 _ _ _ _ ⟨⟨ns, nl, np, ml, nk, nw, pl, fa, fb, sl, pp, pm, ki, fr, tg, wh, bw, rs, sn, fl, qw, hc, hr⟩, hW, hS, hT, ⟨sk, sm, sz, hcH, hrH⟩, hA, hK⟩⟩
    · obtain rfl := nI_u hx hx2 (by omega) (by omega)
      omega
    · obtain rfl := nI_u hx hx2 (by omega) (by omega)
      omega
  · refine hQ _ _ _ _ _ (fun Q2 hQ2 => ?_)
    refine r_taken hr hrH (fun nb => absurd ok nb) (fun s2 hx2 hs2 _ hno2 => ?_) (fun s2 k2 hx2 hs2 _ hk2 e02 e92 => ?_) (fun s2 p2 hx2 hs2 _ hp2 e02 e92 => ?_) (fun s2 hx2 hs2 _ e22 => ?_)
    · obtain rfl := nI_u hx hx2 (by omega) (by omega)
      exact (noT_1 hno2 e0 hp e9).elim
    · obtain rfl := nI_u hx hx2 (by omega) (by omega)
      omega
    · obtain rfl := nI_u hx hx2 (by omega) (by omega)
      exact ⟨fun _ => hQ2 _ _ _ _ ⟨⟨ns, nl, np, ml, nk, nw, pl, fa, fb, sl, pp, pm, ki, fr, tg, wh, bw, rs, sn, fl, qw, hc, hr⟩, hW, hS, hT, ⟨sk, sm, sz, hcH, hrH⟩, hA, hK⟩, fun z => absurd hu z⟩
    · obtain rfl := nI_u hx hx2 (by omega) (by omega)
      omega
  · refine hQ _ _ _ _ _ (fun Q2 hQ2 => ?_)
    refine r_taken hr hrH (fun nb => absurd ok nb) (fun s2 hx2 hs2 _ hno2 => ?_) (fun s2 k2 hx2 hs2 _ hk2 e02 e92 => ?_) (fun s2 p2 hx2 hs2 _ hp2 e02 e92 => ?_) (fun s2 hx2 hs2 _ e22 => ?_)
    · obtain rfl := nI_u hx hx2 (by omega) (by omega)
      exact (noT_1 hno2 e0 hp e9).elim
    · obtain rfl := nI_u hx hx2 (by omega) (by omega)
      omega
    · obtain rfl := nI_u hx hx2 (by omega) (by omega)
      exact ⟨fun z => absurd z hu, fun _ => hQ2 _ _ _ _ ⟨⟨ns, nl, np, ml, nk, nw, pl, fa, fb, sl, pp, pm, ki, fr, tg, wh, bw, rs, sn, fl, qw, hc, hr⟩, hW, hS, hT, ⟨sk, sm, sz, hcH, hrH⟩, hA, hK⟩⟩
    · obtain rfl := nI_u hx hx2 (by omega) (by omega)
      omega
  · refine hQ _ _ _ _ _ (fun Q2 hQ2 => ?_)
    refine r_taken hr hrH (fun nb => absurd ok nb) (fun s2 hx2 hs2 _ hno2 => ?_) (fun s2 k2 hx2 hs2 _ hk2 e02 e92 => ?_) (fun s2 p2 hx2 hs2 _ hp2 e02 e92 => ?_) (fun s2 hx2 hs2 _ e22 => ?_)
    · obtain rfl := nI_u hx hx2 (by omega) (by omega)
      exact (noT_2 hno2 e2).elim
    · obtain rfl := nI_u hx hx2 (by omega) (by omega)
      omega
    · obtain rfl := nI_u hx hx2 (by omega) (by omega)
      omega
    · obtain rfl := nI_u hx hx2 (by omega) (by omega)
      exact ⟨fun _ => ⟨fun _ => hQ2 _ _ _ _ ⟨⟨ns, nl, np, ml, nk, nw, pl, fa, fb, sl, pp, pm, ki, fr, tg, wh, bw, rs, sn, fl, qw, hc, hr⟩, hW, hS, hT, ⟨sk, sm, sz, hcH, hrH⟩, hA, hK⟩, fun z => absurd z hy⟩, fun z => absurd hu z⟩
  · refine hQ _ _ _ _ _ (fun Q2 hQ2 => ?_)
    refine r_taken hr hrH (fun nb => absurd ok nb) (fun s2 hx2 hs2 _ hno2 => ?_) (fun s2 k2 hx2 hs2 _ hk2 e02 e92 => ?_) (fun s2 p2 hx2 hs2 _ hp2 e02 e92 => ?_) (fun s2 hx2 hs2 _ e22 => ?_)
    · obtain rfl := nI_u hx hx2 (by omega) (by omega)
      exact (noT_2 hno2 e2).elim
    · obtain rfl := nI_u hx hx2 (by omega) (by omega)
      omega
    · obtain rfl := nI_u hx hx2 (by omega) (by omega)
      omega
    · obtain rfl := nI_u hx hx2 (by omega) (by omega)
      exact ⟨fun _ => ⟨fun z => absurd hy z, fun _ => hQ2 _ _ _ _ ⟨⟨ns, nl, np, ml, nk, nw, pl, fa, fb, sl, pp, pm, ki, fr, tg, wh, bw, rs, sn, fl, qw, hc, hr⟩, hW, hS, hT, ⟨sk, sm, sz, hcH, hrH⟩, hA, hK⟩⟩, fun z => absurd hu z⟩
  · refine hQ _ _ _ _ _ (fun Q2 hQ2 => ?_)
    refine r_taken hr hrH (fun nb => absurd ok nb) (fun s2 hx2 hs2 _ hno2 => ?_) (fun s2 k2 hx2 hs2 _ hk2 e02 e92 => ?_) (fun s2 p2 hx2 hs2 _ hp2 e02 e92 => ?_) (fun s2 hx2 hs2 _ e22 => ?_)
    · obtain rfl := nI_u hx hx2 (by omega) (by omega)
      exact (noT_2 hno2 e2).elim
    · obtain rfl := nI_u hx hx2 (by omega) (by omega)
      omega
    · obtain rfl := nI_u hx hx2 (by omega) (by omega)
      omega
    · obtain rfl := nI_u hx hx2 (by omega) (by omega)
      exact ⟨fun z => absurd z hu, fun _ => hQ2 _ _ _ _ ⟨⟨ns, nl, np, ml, nk, nw, pl, fa, fb, sl, pp, pm, ki, fr, tg, wh, bw, rs, sn, fl, qw, hc, hr⟩, hW, hS, hT, ⟨sk, sm, sz, hcH, hrH⟩, hA, hK⟩⟩
theorem on_of {nk np : Nat} {sk : Nat → Nat} {sm : Nat → Int32} {s : Nat} (h3 : sk s ≤ 3) (h : ¬ noA nk np sk sm s) : (∃ i, i < nk ∧ sk s = 0 ∧ sm s = nI i) ∨ ∃ p, p < np ∧ sk s = 1 ∧ sm s = nI p := by
  by_cases e0 : sk s = 0
  · by_cases q : isIx (sm s) nk
    · obtain ⟨i, hi, e⟩ := q
      exact .inl ⟨i, hi, e0, e⟩
    · exact absurd (.inl (.inr (.inl ⟨e0, q⟩))) h
  · by_cases e1 : sk s = 1
    · by_cases q : isIx (sm s) np
      · obtain ⟨i, hi, e⟩ := q
        exact .inr ⟨i, hi, e1, e⟩
      · exact absurd (.inl (.inr (.inr ⟨e1, q⟩))) h
    · by_cases e2 : sk s = 2
      · exact absurd (.inr e2) h
      · exact absurd (.inl (.inl (by omega))) h
theorem op_act {l : Launch} {dp : Nat} {I : hI} {J : hJ} {lt tx : Option Nat} {x : Int32} {w : Int32} {z : Int32} {Q : hQ} (hI : INV I J lt) (hQ : ∀ (rv : Int32) I1 J1 lt1 tx1, ret2 l mX12_act dp [.ref 82, .int x, .int w, .int z] (.int rv) I1 J1 lt1 tx1 → Q (some (.int rv)) hSH I1 J1 (hRR lt1 tx1)) : HC l mX11_act (dp + 20) 0 0 [.ref 0, .int x, .int w, .int z] hSH I J (hRR lt tx) Q := by
  obtain ⟨⟨ns, nl, np, ml, nk, nw, pl, fa, fb, sl, pp, pm, ki, fr, tg, wh, bw, rs, sn, fl, qw, hc, hr⟩, hW, hS, hT, ⟨sk, sm, sz, hcH, hrH⟩, hA, hK⟩ := hI
  obtain ⟨hcNF, hw, hcV, hvw, hcL⟩ := id hc
  obtain ⟨k6, k12, kW, k99, kr⟩ := id hw
  obtain ⟨k8, k2, k24, kP, kS⟩ := id hvw
  by_cases ok : sh4 x ∧ nI 0 ≤ w ∧ w ≤ nI 3
  · obtain ⟨hx4, hw9⟩ := ok
    obtain ⟨s, rfl, -, hs3⟩ := rng_ex (by omega) (by omega) hx4.1 hx4.2
    have hs4 : s < 4 := by omega
    by_cases hno : noA nk np sk sm s
    · refine c_actN hc hcH hs4 hw9 hno ?_
      refine hQ _ _ _ _ _ (fun Q2 hQ2 => ?_)
      refine r_actN (show rG _ ns nl np ml nk nw pl fa fb sl pp pm ki fr tg wh bw rs sn fl qw from hr) (show rH _ sk sm sz from hrH) hs4 hw9 hno (fun I2 hR2 h48 => ?_)
      obtain ⟨g110, v44, v45, v46, v48, v49, rfl⟩ := hR2
      exact hQ2 _ _ _ _ ⟨⟨ns, nl, np, ml, nk, nw, pl, fa, fb, sl, pp, pm, ki, fr, tg, wh, bw, rs, sn, fl, qw, hc, hr⟩, hW, hS, hT, ⟨sk, sm, sz, hcH, hrH⟩, ⟨0, fun _ => 0, .inl ⟨rfl, rfl⟩, ⟨h48, by omega, fun j hj => absurd hj (by omega)⟩⟩, hK⟩
    · obtain ⟨m, rfl, -, hm3⟩ := rng_ex (by omega) (by omega) hw9.1 hw9.2
      rcases on_of (hcH s hs4).1 hno with ⟨i, hi, e0, e9⟩ | ⟨p, hp, e0, e9⟩
      · obtain ⟨q1, q5, -⟩ := kS i hi
        rcases (show ki i = 1 ∨ ki i = 2 ∨ ki i = 3 ∨ ki i = 4 ∨ ki i = 5 by omega) with ek | ek | ek | ek | ek
        · rcases (show m = 0 ∨ m = 1 ∨ m = 2 ∨ m = 3 by omega) with rfl | rfl | rfl | rfl
          · refine c_act10 hc hcH hs4 hi e0 e9 ek (fun I1 hA1 h2 hl => ?_)
            obtain ⟨g70, g71, g72, g73, g74, g75, g76, g77, g78, g79, g80, g81, rfl⟩ := hA1
            refine hQ _ _ _ _ _ (fun Q2 hQ2 => ?_)
            refine r_act10 (show rG _ ns nl np ml nk nw pl fa fb sl pp pm ki fr tg wh bw rs sn fl qw from hr) (show rH _ sk sm sz from hrH) hs4 hi e0 e9 ek (fun I2 hR2 h48 hl2 => ?_)
            obtain ⟨g110, v44, v45, v46, v48, v49, rfl⟩ := hR2
            exact hQ2 _ _ _ _ ⟨⟨ns, nl, np, ml, nk, nw, pl, fa, fb, sl, pp, pm, ki, fr, tg, wh, bw, rs, sn, fl, qw, hc, hr⟩, hW, hS, hT, ⟨sk, sm, sz, hcH, hrH⟩, ⟨1, fun q => List.getD [10] q 0, .inr (.inl ⟨rfl, h2, by omega, hl⟩), ⟨h48, by omega, hl2⟩⟩, hK⟩
          · refine c_act11 hc hcH hs4 hi e0 e9 ek (fun I1 hA1 h2 hl => ?_)
            obtain ⟨g70, g71, g72, g73, g74, g75, g76, g77, g78, g79, g80, g81, rfl⟩ := hA1
            refine hQ _ _ _ _ _ (fun Q2 hQ2 => ?_)
            refine r_act11 (show rG _ ns nl np ml nk nw pl fa fb sl pp pm ki fr tg wh bw rs sn fl qw from hr) (show rH _ sk sm sz from hrH) hs4 hi e0 e9 ek (fun I2 hR2 h48 hl2 => ?_)
            obtain ⟨g110, v44, v45, v46, v48, v49, rfl⟩ := hR2
            exact hQ2 _ _ _ _ ⟨⟨ns, nl, np, ml, nk, nw, pl, fa, fb, sl, pp, pm, ki, fr, tg, wh, bw, rs, sn, fl, qw, hc, hr⟩, hW, hS, hT, ⟨sk, sm, sz, hcH, hrH⟩, ⟨3, fun q => List.getD [20, 11, 10] q 0, .inr (.inl ⟨rfl, h2, by omega, hl⟩), ⟨h48, by omega, hl2⟩⟩, hK⟩
          · refine c_act12 hc hcH hs4 hi e0 e9 ek (fun I1 hA1 h2 hl => ?_)
            obtain ⟨g70, g71, g72, g73, g74, g75, g76, g77, g78, g79, g80, g81, rfl⟩ := hA1
            refine hQ _ _ _ _ _ (fun Q2 hQ2 => ?_)
            refine r_act12 (show rG _ ns nl np ml nk nw pl fa fb sl pp pm ki fr tg wh bw rs sn fl qw from hr) (show rH _ sk sm sz from hrH) hs4 hi e0 e9 ek (fun I2 hR2 h48 hl2 => ?_)
            obtain ⟨g110, v44, v45, v46, v48, v49, rfl⟩ := hR2
            exact hQ2 _ _ _ _ ⟨⟨ns, nl, np, ml, nk, nw, pl, fa, fb, sl, pp, pm, ki, fr, tg, wh, bw, rs, sn, fl, qw, hc, hr⟩, hW, hS, hT, ⟨sk, sm, sz, hcH, hrH⟩, ⟨1, fun q => List.getD [12] q 0, .inr (.inl ⟨rfl, h2, by omega, hl⟩), ⟨h48, by omega, hl2⟩⟩, hK⟩
          · refine c_act13 hc hcH hs4 hi e0 e9 ek (fun I1 hA1 h2 hl => ?_)
            obtain ⟨g70, g71, g72, g73, g74, g75, g76, g77, g78, g79, g80, g81, rfl⟩ := hA1
            refine hQ _ _ _ _ _ (fun Q2 hQ2 => ?_)
            refine r_act13 (show rG _ ns nl np ml nk nw pl fa fb sl pp pm ki fr tg wh bw rs sn fl qw from hr) (show rH _ sk sm sz from hrH) hs4 hi e0 e9 ek (fun I2 hR2 h48 hl2 => ?_)
            obtain ⟨g110, v44, v45, v46, v48, v49, rfl⟩ := hR2
            exact hQ2 _ _ _ _ ⟨⟨ns, nl, np, ml, nk, nw, pl, fa, fb, sl, pp, pm, ki, fr, tg, wh, bw, rs, sn, fl, qw, hc, hr⟩, hW, hS, hT, ⟨sk, sm, sz, hcH, hrH⟩, ⟨4, fun q => List.getD [13, 20, 11, 10] q 0, .inr (.inl ⟨rfl, h2, by omega, hl⟩), ⟨h48, by omega, hl2⟩⟩, hK⟩
        · rcases (show m = 0 ∨ m = 1 ∨ m = 2 ∨ m = 3 by omega) with rfl | rfl | rfl | rfl
          · refine c_act20 hc hcH hs4 hi e0 e9 ek (fun I1 hA1 h2 hl => ?_)
            obtain ⟨g70, g71, g72, g73, g74, g75, g76, g77, g78, g79, g80, g81, rfl⟩ := hA1
            refine hQ _ _ _ _ _ (fun Q2 hQ2 => ?_)
            refine r_act20 (show rG _ ns nl np ml nk nw pl fa fb sl pp pm ki fr tg wh bw rs sn fl qw from hr) (show rH _ sk sm sz from hrH) hs4 hi e0 e9 ek (fun I2 hR2 h48 hl2 => ?_)
            obtain ⟨g110, v44, v45, v46, v48, v49, rfl⟩ := hR2
            exact hQ2 _ _ _ _ ⟨⟨ns, nl, np, ml, nk, nw, pl, fa, fb, sl, pp, pm, ki, fr, tg, wh, bw, rs, sn, fl, qw, hc, hr⟩, hW, hS, hT, ⟨sk, sm, sz, hcH, hrH⟩, ⟨2, fun q => List.getD [30, 10] q 0, .inr (.inr (.inl ⟨rfl, h2, by omega, hl⟩)), ⟨h48, by omega, hl2⟩⟩, hK⟩
          · refine c_act21 hc hcH hs4 hi e0 e9 ek (fun I1 hA1 h2 hl => ?_)
            obtain ⟨g70, g71, g72, g73, g74, g75, g76, g77, g78, g79, g80, g81, rfl⟩ := hA1
            refine hQ _ _ _ _ _ (fun Q2 hQ2 => ?_)
            refine r_act21 (show rG _ ns nl np ml nk nw pl fa fb sl pp pm ki fr tg wh bw rs sn fl qw from hr) (show rH _ sk sm sz from hrH) hs4 hi e0 e9 ek (fun I2 hR2 h48 hl2 => ?_)
            obtain ⟨g110, v44, v45, v46, v48, v49, rfl⟩ := hR2
            exact hQ2 _ _ _ _ ⟨⟨ns, nl, np, ml, nk, nw, pl, fa, fb, sl, pp, pm, ki, fr, tg, wh, bw, rs, sn, fl, qw, hc, hr⟩, hW, hS, hT, ⟨sk, sm, sz, hcH, hrH⟩, ⟨3, fun q => List.getD [11, 30, 10] q 0, .inr (.inr (.inl ⟨rfl, h2, by omega, hl⟩)), ⟨h48, by omega, hl2⟩⟩, hK⟩
          · refine c_act22 hc hcH hs4 hi e0 e9 ek (fun I1 hA1 h2 hl => ?_)
            obtain ⟨g70, g71, g72, g73, g74, g75, g76, g77, g78, g79, g80, g81, rfl⟩ := hA1
            refine hQ _ _ _ _ _ (fun Q2 hQ2 => ?_)
            refine r_act22 (show rG _ ns nl np ml nk nw pl fa fb sl pp pm ki fr tg wh bw rs sn fl qw from hr) (show rH _ sk sm sz from hrH) hs4 hi e0 e9 ek (fun I2 hR2 h48 hl2 => ?_)
            obtain ⟨g110, v44, v45, v46, v48, v49, rfl⟩ := hR2
            exact hQ2 _ _ _ _ ⟨⟨ns, nl, np, ml, nk, nw, pl, fa, fb, sl, pp, pm, ki, fr, tg, wh, bw, rs, sn, fl, qw, hc, hr⟩, hW, hS, hT, ⟨sk, sm, sz, hcH, hrH⟩, ⟨1, fun q => List.getD [12] q 0, .inr (.inr (.inl ⟨rfl, h2, by omega, hl⟩)), ⟨h48, by omega, hl2⟩⟩, hK⟩
          · refine c_act23 hc hcH hs4 hi e0 e9 ek (fun I1 hA1 h2 hl => ?_)
            obtain ⟨g70, g71, g72, g73, g74, g75, g76, g77, g78, g79, g80, g81, rfl⟩ := hA1
            refine hQ _ _ _ _ _ (fun Q2 hQ2 => ?_)
            refine r_act23 (show rG _ ns nl np ml nk nw pl fa fb sl pp pm ki fr tg wh bw rs sn fl qw from hr) (show rH _ sk sm sz from hrH) hs4 hi e0 e9 ek (fun I2 hR2 h48 hl2 => ?_)
            obtain ⟨g110, v44, v45, v46, v48, v49, rfl⟩ := hR2
            exact hQ2 _ _ _ _ ⟨⟨ns, nl, np, ml, nk, nw, pl, fa, fb, sl, pp, pm, ki, fr, tg, wh, bw, rs, sn, fl, qw, hc, hr⟩, hW, hS, hT, ⟨sk, sm, sz, hcH, hrH⟩, ⟨4, fun q => List.getD [13, 11, 30, 10] q 0, .inr (.inr (.inl ⟨rfl, h2, by omega, hl⟩)), ⟨h48, by omega, hl2⟩⟩, hK⟩
        · rcases (show m = 0 ∨ m = 1 ∨ m = 2 ∨ m = 3 by omega) with rfl | rfl | rfl | rfl
          · refine c_act30 hc hcH hs4 hi e0 e9 ek (fun I1 hA1 h2 hl => ?_)
            obtain ⟨g70, g71, g72, g73, g74, g75, g76, g77, g78, g79, g80, g81, rfl⟩ := hA1
            refine hQ _ _ _ _ _ (fun Q2 hQ2 => ?_)
            refine r_act30 (show rG _ ns nl np ml nk nw pl fa fb sl pp pm ki fr tg wh bw rs sn fl qw from hr) (show rH _ sk sm sz from hrH) hs4 hi e0 e9 ek (fun I2 hR2 h48 hl2 => ?_)
            obtain ⟨g110, v44, v45, v46, v48, v49, rfl⟩ := hR2
            exact hQ2 _ _ _ _ ⟨⟨ns, nl, np, ml, nk, nw, pl, fa, fb, sl, pp, pm, ki, fr, tg, wh, bw, rs, sn, fl, qw, hc, hr⟩, hW, hS, hT, ⟨sk, sm, sz, hcH, hrH⟩, ⟨1, fun q => List.getD [10] q 0, .inr (.inr (.inr (.inl ⟨rfl, h2, by omega, hl⟩))), ⟨h48, by omega, hl2⟩⟩, hK⟩
          · refine c_act31 hc hcH hs4 hi e0 e9 ek (fun I1 hA1 h2 hl => ?_)
            obtain ⟨g70, g71, g72, g73, g74, g75, g76, g77, g78, g79, g80, g81, rfl⟩ := hA1
            refine hQ _ _ _ _ _ (fun Q2 hQ2 => ?_)
            refine r_act31 (show rG _ ns nl np ml nk nw pl fa fb sl pp pm ki fr tg wh bw rs sn fl qw from hr) (show rH _ sk sm sz from hrH) hs4 hi e0 e9 ek (fun I2 hR2 h48 hl2 => ?_)
            obtain ⟨g110, v44, v45, v46, v48, v49, rfl⟩ := hR2
            exact hQ2 _ _ _ _ ⟨⟨ns, nl, np, ml, nk, nw, pl, fa, fb, sl, pp, pm, ki, fr, tg, wh, bw, rs, sn, fl, qw, hc, hr⟩, hW, hS, hT, ⟨sk, sm, sz, hcH, hrH⟩, ⟨2, fun q => List.getD [11, 10] q 0, .inr (.inr (.inr (.inl ⟨rfl, h2, by omega, hl⟩))), ⟨h48, by omega, hl2⟩⟩, hK⟩
          · refine c_act32 hc hcH hs4 hi e0 e9 ek (fun I1 hA1 h2 hl => ?_)
            obtain ⟨g70, g71, g72, g73, g74, g75, g76, g77, g78, g79, g80, g81, rfl⟩ := hA1
            refine hQ _ _ _ _ _ (fun Q2 hQ2 => ?_)
            refine r_act32 (show rG _ ns nl np ml nk nw pl fa fb sl pp pm ki fr tg wh bw rs sn fl qw from hr) (show rH _ sk sm sz from hrH) hs4 hi e0 e9 ek (fun I2 hR2 h48 hl2 => ?_)
            obtain ⟨g110, v44, v45, v46, v48, v49, rfl⟩ := hR2
            exact hQ2 _ _ _ _ ⟨⟨ns, nl, np, ml, nk, nw, pl, fa, fb, sl, pp, pm, ki, fr, tg, wh, bw, rs, sn, fl, qw, hc, hr⟩, hW, hS, hT, ⟨sk, sm, sz, hcH, hrH⟩, ⟨2, fun q => List.getD [40, 12] q 0, .inr (.inr (.inr (.inl ⟨rfl, h2, by omega, hl⟩))), ⟨h48, by omega, hl2⟩⟩, hK⟩
          · refine c_act33 hc hcH hs4 hi e0 e9 ek (fun I1 hA1 h2 hl => ?_)
            obtain ⟨g70, g71, g72, g73, g74, g75, g76, g77, g78, g79, g80, g81, rfl⟩ := hA1
            refine hQ _ _ _ _ _ (fun Q2 hQ2 => ?_)
            refine r_act33 (show rG _ ns nl np ml nk nw pl fa fb sl pp pm ki fr tg wh bw rs sn fl qw from hr) (show rH _ sk sm sz from hrH) hs4 hi e0 e9 ek (fun I2 hR2 h48 hl2 => ?_)
            obtain ⟨g110, v44, v45, v46, v48, v49, rfl⟩ := hR2
            exact hQ2 _ _ _ _ ⟨⟨ns, nl, np, ml, nk, nw, pl, fa, fb, sl, pp, pm, ki, fr, tg, wh, bw, rs, sn, fl, qw, hc, hr⟩, hW, hS, hT, ⟨sk, sm, sz, hcH, hrH⟩, ⟨3, fun q => List.getD [13, 11, 10] q 0, .inr (.inr (.inr (.inl ⟨rfl, h2, by omega, hl⟩))), ⟨h48, by omega, hl2⟩⟩, hK⟩
        · rcases (show m = 0 ∨ m = 1 ∨ m = 2 ∨ m = 3 by omega) with rfl | rfl | rfl | rfl
          · refine c_act40 hc hcH hs4 hi e0 e9 ek (fun I1 hA1 h2 hl => ?_)
            obtain ⟨g70, g71, g72, g73, g74, g75, g76, g77, g78, g79, g80, g81, rfl⟩ := hA1
            refine hQ _ _ _ _ _ (fun Q2 hQ2 => ?_)
            refine r_act40 (show rG _ ns nl np ml nk nw pl fa fb sl pp pm ki fr tg wh bw rs sn fl qw from hr) (show rH _ sk sm sz from hrH) hs4 hi e0 e9 ek (fun I2 hR2 h48 hl2 => ?_)
            obtain ⟨g110, v44, v45, v46, v48, v49, rfl⟩ := hR2
            exact hQ2 _ _ _ _ ⟨⟨ns, nl, np, ml, nk, nw, pl, fa, fb, sl, pp, pm, ki, fr, tg, wh, bw, rs, sn, fl, qw, hc, hr⟩, hW, hS, hT, ⟨sk, sm, sz, hcH, hrH⟩, ⟨2, fun q => List.getD [50, 10] q 0, .inr (.inr (.inr (.inr (.inl ⟨rfl, h2, by omega, hl⟩)))), ⟨h48, by omega, hl2⟩⟩, hK⟩
          · refine c_act41 hc hcH hs4 hi e0 e9 ek (fun I1 hA1 h2 hl => ?_)
            obtain ⟨g70, g71, g72, g73, g74, g75, g76, g77, g78, g79, g80, g81, rfl⟩ := hA1
            refine hQ _ _ _ _ _ (fun Q2 hQ2 => ?_)
            refine r_act41 (show rG _ ns nl np ml nk nw pl fa fb sl pp pm ki fr tg wh bw rs sn fl qw from hr) (show rH _ sk sm sz from hrH) hs4 hi e0 e9 ek (fun I2 hR2 h48 hl2 => ?_)
            obtain ⟨g110, v44, v45, v46, v48, v49, rfl⟩ := hR2
            exact hQ2 _ _ _ _ ⟨⟨ns, nl, np, ml, nk, nw, pl, fa, fb, sl, pp, pm, ki, fr, tg, wh, bw, rs, sn, fl, qw, hc, hr⟩, hW, hS, hT, ⟨sk, sm, sz, hcH, hrH⟩, ⟨4, fun q => List.getD [20, 11, 50, 10] q 0, .inr (.inr (.inr (.inr (.inl ⟨rfl, h2, by omega, hl⟩)))), ⟨h48, by omega, hl2⟩⟩, hK⟩
          · refine c_act42 hc hcH hs4 hi e0 e9 ek (fun I1 hA1 h2 hl => ?_)
            obtain ⟨g70, g71, g72, g73, g74, g75, g76, g77, g78, g79, g80, g81, rfl⟩ := hA1
            refine hQ _ _ _ _ _ (fun Q2 hQ2 => ?_)
            refine r_act42 (show rG _ ns nl np ml nk nw pl fa fb sl pp pm ki fr tg wh bw rs sn fl qw from hr) (show rH _ sk sm sz from hrH) hs4 hi e0 e9 ek (fun I2 hR2 h48 hl2 => ?_)
            obtain ⟨g110, v44, v45, v46, v48, v49, rfl⟩ := hR2
            exact hQ2 _ _ _ _ ⟨⟨ns, nl, np, ml, nk, nw, pl, fa, fb, sl, pp, pm, ki, fr, tg, wh, bw, rs, sn, fl, qw, hc, hr⟩, hW, hS, hT, ⟨sk, sm, sz, hcH, hrH⟩, ⟨1, fun q => List.getD [12] q 0, .inr (.inr (.inr (.inr (.inl ⟨rfl, h2, by omega, hl⟩)))), ⟨h48, by omega, hl2⟩⟩, hK⟩
          · refine c_act43 hc hcH hs4 hi e0 e9 ek (fun I1 hA1 h2 hl => ?_)
            obtain ⟨g70, g71, g72, g73, g74, g75, g76, g77, g78, g79, g80, g81, rfl⟩ := hA1
            refine hQ _ _ _ _ _ (fun Q2 hQ2 => ?_)
            refine r_act43 (show rG _ ns nl np ml nk nw pl fa fb sl pp pm ki fr tg wh bw rs sn fl qw from hr) (show rH _ sk sm sz from hrH) hs4 hi e0 e9 ek (fun I2 hR2 h48 hl2 => ?_)
            obtain ⟨g110, v44, v45, v46, v48, v49, rfl⟩ := hR2
            exact hQ2 _ _ _ _ ⟨⟨ns, nl, np, ml, nk, nw, pl, fa, fb, sl, pp, pm, ki, fr, tg, wh, bw, rs, sn, fl, qw, hc, hr⟩, hW, hS, hT, ⟨sk, sm, sz, hcH, hrH⟩, ⟨7, fun q => List.getD [51, 13, 20, 11, 50, 10, 12] q 0, .inr (.inr (.inr (.inr (.inl ⟨rfl, h2, by omega, hl⟩)))), ⟨h48, by omega, hl2⟩⟩, hK⟩
        · rcases (show m = 0 ∨ m = 1 ∨ m = 2 ∨ m = 3 by omega) with rfl | rfl | rfl | rfl
          · refine c_act50 hc hcH hs4 hi e0 e9 ek (fun I1 hA1 h2 hl => ?_)
            obtain ⟨g70, g71, g72, g73, g74, g75, g76, g77, g78, g79, g80, g81, rfl⟩ := hA1
            refine hQ _ _ _ _ _ (fun Q2 hQ2 => ?_)
            refine r_act50 (show rG _ ns nl np ml nk nw pl fa fb sl pp pm ki fr tg wh bw rs sn fl qw from hr) (show rH _ sk sm sz from hrH) hs4 hi e0 e9 ek (fun I2 hR2 h48 hl2 => ?_)
            obtain ⟨g110, v44, v45, v46, v48, v49, rfl⟩ := hR2
            exact hQ2 _ _ _ _ ⟨⟨ns, nl, np, ml, nk, nw, pl, fa, fb, sl, pp, pm, ki, fr, tg, wh, bw, rs, sn, fl, qw, hc, hr⟩, hW, hS, hT, ⟨sk, sm, sz, hcH, hrH⟩, ⟨3, fun q => List.getD [60, 30, 10] q 0, .inr (.inr (.inr (.inr (.inr (.inl ⟨rfl, h2, by omega, hl⟩))))), ⟨h48, by omega, hl2⟩⟩, hK⟩
          · refine c_act51 hc hcH hs4 hi e0 e9 ek (fun I1 hA1 h2 hl => ?_)
            obtain ⟨g70, g71, g72, g73, g74, g75, g76, g77, g78, g79, g80, g81, rfl⟩ := hA1
            refine hQ _ _ _ _ _ (fun Q2 hQ2 => ?_)
            refine r_act51 (show rG _ ns nl np ml nk nw pl fa fb sl pp pm ki fr tg wh bw rs sn fl qw from hr) (show rH _ sk sm sz from hrH) hs4 hi e0 e9 ek (fun I2 hR2 h48 hl2 => ?_)
            obtain ⟨g110, v44, v45, v46, v48, v49, rfl⟩ := hR2
            exact hQ2 _ _ _ _ ⟨⟨ns, nl, np, ml, nk, nw, pl, fa, fb, sl, pp, pm, ki, fr, tg, wh, bw, rs, sn, fl, qw, hc, hr⟩, hW, hS, hT, ⟨sk, sm, sz, hcH, hrH⟩, ⟨8, fun q => List.getD [61, 11, 60, 30, 10, 60, 30, 10] q 0, .inr (.inr (.inr (.inr (.inr (.inl ⟨rfl, h2, by omega, hl⟩))))), ⟨h48, by omega, hl2⟩⟩, hK⟩
          · refine c_act52 hc hcH hs4 hi e0 e9 ek (fun I1 hA1 h2 hl => ?_)
            obtain ⟨g70, g71, g72, g73, g74, g75, g76, g77, g78, g79, g80, g81, rfl⟩ := hA1
            refine hQ _ _ _ _ _ (fun Q2 hQ2 => ?_)
            refine r_act52 (show rG _ ns nl np ml nk nw pl fa fb sl pp pm ki fr tg wh bw rs sn fl qw from hr) (show rH _ sk sm sz from hrH) hs4 hi e0 e9 ek (fun I2 hR2 h48 hl2 => ?_)
            obtain ⟨g110, v44, v45, v46, v48, v49, rfl⟩ := hR2
            exact hQ2 _ _ _ _ ⟨⟨ns, nl, np, ml, nk, nw, pl, fa, fb, sl, pp, pm, ki, fr, tg, wh, bw, rs, sn, fl, qw, hc, hr⟩, hW, hS, hT, ⟨sk, sm, sz, hcH, hrH⟩, ⟨1, fun q => List.getD [12] q 0, .inr (.inr (.inr (.inr (.inr (.inl ⟨rfl, h2, by omega, hl⟩))))), ⟨h48, by omega, hl2⟩⟩, hK⟩
          · refine c_act53 hc hcH hs4 hi e0 e9 ek (fun I1 hA1 h2 hl => ?_)
            obtain ⟨g70, g71, g72, g73, g74, g75, g76, g77, g78, g79, g80, g81, rfl⟩ := hA1
            refine hQ _ _ _ _ _ (fun Q2 hQ2 => ?_)
            refine r_act53 (show rG _ ns nl np ml nk nw pl fa fb sl pp pm ki fr tg wh bw rs sn fl qw from hr) (show rH _ sk sm sz from hrH) hs4 hi e0 e9 ek (fun I2 hR2 h48 hl2 => ?_)
            obtain ⟨g110, v44, v45, v46, v48, v49, rfl⟩ := hR2
            exact hQ2 _ _ _ _ ⟨⟨ns, nl, np, ml, nk, nw, pl, fa, fb, sl, pp, pm, ki, fr, tg, wh, bw, rs, sn, fl, qw, hc, hr⟩, hW, hS, hT, ⟨sk, sm, sz, hcH, hrH⟩, ⟨9, fun q => List.getD [13, 61, 11, 60, 30, 10, 60, 30, 10] q 0, .inr (.inr (.inr (.inr (.inr (.inl ⟨rfl, h2, by omega, hl⟩))))), ⟨h48, by omega, hl2⟩⟩, hK⟩
      · rcases (show m = 0 ∨ m = 1 ∨ m = 2 ∨ m = 3 by omega) with rfl | rfl | rfl | rfl
        · refine c_act60 hc hcH hs4 hp e0 e9 (fun I1 hA1 h2 hl => ?_)
          obtain ⟨g70, g71, g72, g73, g74, g75, g76, g77, g78, g79, g80, g81, rfl⟩ := hA1
          refine hQ _ _ _ _ _ (fun Q2 hQ2 => ?_)
          refine r_act60 (show rG _ ns nl np ml nk nw pl fa fb sl pp pm ki fr tg wh bw rs sn fl qw from hr) (show rH _ sk sm sz from hrH) hs4 hp e0 e9 (fun I2 hR2 h48 hl2 => ?_)
          obtain ⟨g110, v44, v45, v46, v48, v49, rfl⟩ := hR2
          exact hQ2 _ _ _ _ ⟨⟨ns, nl, np, ml, nk, nw, pl, fa, fb, sl, pp, pm, ki, fr, tg, wh, bw, rs, sn, fl, qw, hc, hr⟩, hW, hS, hT, ⟨sk, sm, sz, hcH, hrH⟩, ⟨1, fun q => List.getD [70] q 0, .inr (.inr (.inr (.inr (.inr (.inr ⟨rfl, h2, by omega, hl⟩))))), ⟨h48, by omega, hl2⟩⟩, hK⟩
        · refine c_act61 hc hcH hs4 hp e0 e9 (fun I1 hA1 h2 hl => ?_)
          obtain ⟨g70, g71, g72, g73, g74, g75, g76, g77, g78, g79, g80, g81, rfl⟩ := hA1
          refine hQ _ _ _ _ _ (fun Q2 hQ2 => ?_)
          refine r_act61 (show rG _ ns nl np ml nk nw pl fa fb sl pp pm ki fr tg wh bw rs sn fl qw from hr) (show rH _ sk sm sz from hrH) hs4 hp e0 e9 (fun I2 hR2 h48 hl2 => ?_)
          obtain ⟨g110, v44, v45, v46, v48, v49, rfl⟩ := hR2
          exact hQ2 _ _ _ _ ⟨⟨ns, nl, np, ml, nk, nw, pl, fa, fb, sl, pp, pm, ki, fr, tg, wh, bw, rs, sn, fl, qw, hc, hr⟩, hW, hS, hT, ⟨sk, sm, sz, hcH, hrH⟩, ⟨2, fun q => List.getD [71, 70] q 0, .inr (.inr (.inr (.inr (.inr (.inr ⟨rfl, h2, by omega, hl⟩))))), ⟨h48, by omega, hl2⟩⟩, hK⟩
        · refine c_act62 hc hcH hs4 hp e0 e9 (fun I1 hA1 h2 hl => ?_)
          obtain ⟨g70, g71, g72, g73, g74, g75, g76, g77, g78, g79, g80, g81, rfl⟩ := hA1
          refine hQ _ _ _ _ _ (fun Q2 hQ2 => ?_)
          refine r_act62 (show rG _ ns nl np ml nk nw pl fa fb sl pp pm ki fr tg wh bw rs sn fl qw from hr) (show rH _ sk sm sz from hrH) hs4 hp e0 e9 (fun I2 hR2 h48 hl2 => ?_)
          obtain ⟨g110, v44, v45, v46, v48, v49, rfl⟩ := hR2
          exact hQ2 _ _ _ _ ⟨⟨ns, nl, np, ml, nk, nw, pl, fa, fb, sl, pp, pm, ki, fr, tg, wh, bw, rs, sn, fl, qw, hc, hr⟩, hW, hS, hT, ⟨sk, sm, sz, hcH, hrH⟩, ⟨1, fun q => List.getD [72] q 0, .inr (.inr (.inr (.inr (.inr (.inr ⟨rfl, h2, by omega, hl⟩))))), ⟨h48, by omega, hl2⟩⟩, hK⟩
        · refine c_act63 hc hcH hs4 hp e0 e9 (fun I1 hA1 h2 hl => ?_)
          obtain ⟨g70, g71, g72, g73, g74, g75, g76, g77, g78, g79, g80, g81, rfl⟩ := hA1
          refine hQ _ _ _ _ _ (fun Q2 hQ2 => ?_)
          refine r_act63 (show rG _ ns nl np ml nk nw pl fa fb sl pp pm ki fr tg wh bw rs sn fl qw from hr) (show rH _ sk sm sz from hrH) hs4 hp e0 e9 (fun I2 hR2 h48 hl2 => ?_)
          obtain ⟨g110, v44, v45, v46, v48, v49, rfl⟩ := hR2
          exact hQ2 _ _ _ _ ⟨⟨ns, nl, np, ml, nk, nw, pl, fa, fb, sl, pp, pm, ki, fr, tg, wh, bw, rs, sn, fl, qw, hc, hr⟩, hW, hS, hT, ⟨sk, sm, sz, hcH, hrH⟩, ⟨4, fun q => List.getD [73, 71, 70, 72] q 0, .inr (.inr (.inr (.inr (.inr (.inr ⟨rfl, h2, by omega, hl⟩))))), ⟨h48, by omega, hl2⟩⟩, hK⟩
  · refine c_actB hc ok ?_
    refine hQ _ _ _ _ _ (fun Q2 hQ2 => ?_)
    refine r_actB (show rG _ ns nl np ml nk nw pl fa fb sl pp pm ki fr tg wh bw rs sn fl qw from hr) ok (fun I2 hR2 h48 => ?_)
    obtain ⟨g110, v44, v45, v46, v48, v49, rfl⟩ := hR2
    exact hQ2 _ _ _ _ ⟨⟨ns, nl, np, ml, nk, nw, pl, fa, fb, sl, pp, pm, ki, fr, tg, wh, bw, rs, sn, fl, qw, hc, hr⟩, hW, hS, hT, ⟨sk, sm, sz, hcH, hrH⟩, ⟨0, fun _ => 0, .inl ⟨rfl, rfl⟩, ⟨h48, by omega, fun j hj => absurd hj (by omega)⟩⟩, hK⟩
theorem op_trace {l : Launch} {dp : Nat} {I : hI} {J : hJ} {lt tx : Option Nat} {x : Int32} {Q : hQ} (hI : INV I J lt) (hQ : ∀ (rv : Int32) I1 J1 lt1 tx1, ret2 l mX12_trace dp [.ref 82, .int x] (.int rv) I1 J1 lt1 tx1 → Q (some (.int rv)) hSH I1 J1 (hRR lt1 tx1)) : HC l mX11_trace (dp + 20) 0 0 [.ref 0, .int x] hSH I J (hRR lt tx) Q := by
  obtain ⟨⟨ns, nl, np, ml, nk, nw, pl, fa, fb, sl, pp, pm, ki, fr, tg, wh, bw, rs, sn, fl, qw, hc, hr⟩, hW, hS, hT, hH, hA, hK⟩ := hI
  obtain ⟨na, tr, hcA, hrA⟩ := id hA
  have k30 := hrA.2.1
  rcases hcA with ⟨rfl, rfl⟩ | ⟨rfl, hq⟩ | ⟨rfl, hq⟩ | ⟨rfl, hq⟩ | ⟨rfl, hq⟩ | ⟨rfl, hq⟩ | ⟨rfl, hq⟩
  · refine c_trace0 ?_
    refine hQ _ _ _ _ _ (fun Q2 hQ2 => ?_)
    exact r_trace hrA (fun _ => hQ2 _ _ _ _ ⟨⟨ns, nl, np, ml, nk, nw, pl, fa, fb, sl, pp, pm, ki, fr, tg, wh, bw, rs, sn, fl, qw, hc, hr⟩, hW, hS, hT, hH, hA, hK⟩) (fun i hi => absurd hi (by omega))
  · refine c_trace1 hq (fun nb => ?_) (fun i hi hx => ?_)
    · refine hQ _ _ _ _ _ (fun Q2 hQ2 => ?_)
      exact r_trace hrA (fun _ => hQ2 _ _ _ _ ⟨⟨ns, nl, np, ml, nk, nw, pl, fa, fb, sl, pp, pm, ki, fr, tg, wh, bw, rs, sn, fl, qw, hc, hr⟩, hW, hS, hT, hH, hA, hK⟩) (fun i hi hx => absurd ⟨i, hi, hx⟩ nb)
    · refine hQ _ _ _ _ _ (fun Q2 hQ2 => ?_)
      refine r_trace hrA (fun nb => absurd ⟨i, hi, hx⟩ nb) (fun i2 hi2 hx2 => ?_)
      obtain rfl := nI_u hx hx2 (by omega) (by omega)
      exact hQ2 _ _ _ _ ⟨⟨ns, nl, np, ml, nk, nw, pl, fa, fb, sl, pp, pm, ki, fr, tg, wh, bw, rs, sn, fl, qw, hc, hr⟩, hW, hS, hT, hH, hA, hK⟩
  · refine c_trace2 hq (fun nb => ?_) (fun i hi hx => ?_)
    · refine hQ _ _ _ _ _ (fun Q2 hQ2 => ?_)
      exact r_trace hrA (fun _ => hQ2 _ _ _ _ ⟨⟨ns, nl, np, ml, nk, nw, pl, fa, fb, sl, pp, pm, ki, fr, tg, wh, bw, rs, sn, fl, qw, hc, hr⟩, hW, hS, hT, hH, hA, hK⟩) (fun i hi hx => absurd ⟨i, hi, hx⟩ nb)
    · refine hQ _ _ _ _ _ (fun Q2 hQ2 => ?_)
      refine r_trace hrA (fun nb => absurd ⟨i, hi, hx⟩ nb) (fun i2 hi2 hx2 => ?_)
      obtain rfl := nI_u hx hx2 (by omega) (by omega)
      exact hQ2 _ _ _ _ ⟨⟨ns, nl, np, ml, nk, nw, pl, fa, fb, sl, pp, pm, ki, fr, tg, wh, bw, rs, sn, fl, qw, hc, hr⟩, hW, hS, hT, hH, hA, hK⟩
  · refine c_trace3 hq (fun nb => ?_) (fun i hi hx => ?_)
    · refine hQ _ _ _ _ _ (fun Q2 hQ2 => ?_)
      exact r_trace hrA (fun _ => hQ2 _ _ _ _ ⟨⟨ns, nl, np, ml, nk, nw, pl, fa, fb, sl, pp, pm, ki, fr, tg, wh, bw, rs, sn, fl, qw, hc, hr⟩, hW, hS, hT, hH, hA, hK⟩) (fun i hi hx => absurd ⟨i, hi, hx⟩ nb)
    · refine hQ _ _ _ _ _ (fun Q2 hQ2 => ?_)
      refine r_trace hrA (fun nb => absurd ⟨i, hi, hx⟩ nb) (fun i2 hi2 hx2 => ?_)
      obtain rfl := nI_u hx hx2 (by omega) (by omega)
      exact hQ2 _ _ _ _ ⟨⟨ns, nl, np, ml, nk, nw, pl, fa, fb, sl, pp, pm, ki, fr, tg, wh, bw, rs, sn, fl, qw, hc, hr⟩, hW, hS, hT, hH, hA, hK⟩
  · refine c_trace4 hq (fun nb => ?_) (fun i hi hx => ?_)
    · refine hQ _ _ _ _ _ (fun Q2 hQ2 => ?_)
      exact r_trace hrA (fun _ => hQ2 _ _ _ _ ⟨⟨ns, nl, np, ml, nk, nw, pl, fa, fb, sl, pp, pm, ki, fr, tg, wh, bw, rs, sn, fl, qw, hc, hr⟩, hW, hS, hT, hH, hA, hK⟩) (fun i hi hx => absurd ⟨i, hi, hx⟩ nb)
    · refine hQ _ _ _ _ _ (fun Q2 hQ2 => ?_)
      refine r_trace hrA (fun nb => absurd ⟨i, hi, hx⟩ nb) (fun i2 hi2 hx2 => ?_)
      obtain rfl := nI_u hx hx2 (by omega) (by omega)
      exact hQ2 _ _ _ _ ⟨⟨ns, nl, np, ml, nk, nw, pl, fa, fb, sl, pp, pm, ki, fr, tg, wh, bw, rs, sn, fl, qw, hc, hr⟩, hW, hS, hT, hH, hA, hK⟩
  · refine c_trace5 hq (fun nb => ?_) (fun i hi hx => ?_)
    · refine hQ _ _ _ _ _ (fun Q2 hQ2 => ?_)
      exact r_trace hrA (fun _ => hQ2 _ _ _ _ ⟨⟨ns, nl, np, ml, nk, nw, pl, fa, fb, sl, pp, pm, ki, fr, tg, wh, bw, rs, sn, fl, qw, hc, hr⟩, hW, hS, hT, hH, hA, hK⟩) (fun i hi hx => absurd ⟨i, hi, hx⟩ nb)
    · refine hQ _ _ _ _ _ (fun Q2 hQ2 => ?_)
      refine r_trace hrA (fun nb => absurd ⟨i, hi, hx⟩ nb) (fun i2 hi2 hx2 => ?_)
      obtain rfl := nI_u hx hx2 (by omega) (by omega)
      exact hQ2 _ _ _ _ ⟨⟨ns, nl, np, ml, nk, nw, pl, fa, fb, sl, pp, pm, ki, fr, tg, wh, bw, rs, sn, fl, qw, hc, hr⟩, hW, hS, hT, hH, hA, hK⟩
  · refine c_trace6 hq (fun nb => ?_) (fun i hi hx => ?_)
    · refine hQ _ _ _ _ _ (fun Q2 hQ2 => ?_)
      exact r_trace hrA (fun _ => hQ2 _ _ _ _ ⟨⟨ns, nl, np, ml, nk, nw, pl, fa, fb, sl, pp, pm, ki, fr, tg, wh, bw, rs, sn, fl, qw, hc, hr⟩, hW, hS, hT, hH, hA, hK⟩) (fun i hi hx => absurd ⟨i, hi, hx⟩ nb)
    · refine hQ _ _ _ _ _ (fun Q2 hQ2 => ?_)
      refine r_trace hrA (fun nb => absurd ⟨i, hi, hx⟩ nb) (fun i2 hi2 hx2 => ?_)
      obtain rfl := nI_u hx hx2 (by omega) (by omega)
      exact hQ2 _ _ _ _ ⟨⟨ns, nl, np, ml, nk, nw, pl, fa, fb, sl, pp, pm, ki, fr, tg, wh, bw, rs, sn, fl, qw, hc, hr⟩, hW, hS, hT, hH, hA, hK⟩
theorem op_many {l : Launch} {dp : Nat} {I : hI} {J : hJ} {lt tx : Option Nat} {w : Int32} {Q : hQ} (hI : INV I J lt) (hQ : ∀ (rv : Int32) I1 J1 lt1 tx1, ret2 l mX12_many dp [.ref 82, .int w] (.int rv) I1 J1 lt1 tx1 → Q (some (.int rv)) hSH I1 J1 (hRR lt1 tx1)) : HC l mX11_many (dp + 20) 0 0 [.ref 0, .int w] hSH I J (hRR lt tx) Q := by
  obtain ⟨⟨ns, nl, np, ml, nk, nw, pl, fa, fb, sl, pp, pm, ki, fr, tg, wh, bw, rs, sn, fl, qw, hc, hr⟩, hW, hS, hT, hH, hA, hK⟩ := hI
  obtain ⟨nr, rc, hcR, hrR⟩ := id hW
  obtain ⟨nt, tp, hcT, hrT⟩ := id hT
  obtain ⟨na, tr, hcA, hrA⟩ := id hA
  by_cases e0 : w = nI 0
  · subst e0
    refine c_many0 (nr := 0) (nt := 0) (na := 0) (rc := fun _ => 0) (tp := fun _ => 0) (tr := fun _ => 0) hc ?_
    refine hQ _ _ _ _ _ (fun Q2 hQ2 => ?_)
    exact r_many0 (nr := 0) (nt := 0) (na := 0) (rc := fun _ => 0) (tp := fun _ => 0) (tr := fun _ => 0) hr (hQ2 _ _ _ _ ⟨⟨ns, nl, np, ml, nk, nw, pl, fa, fb, sl, pp, pm, ki, fr, tg, wh, bw, rs, sn, fl, qw, hc, hr⟩, hW, hS, hT, hH, hA, hK⟩)
  by_cases e1 : w = nI 1
  · subst e1
    refine c_many1 (nr := 0) (nt := 0) (na := 0) (rc := fun _ => 0) (tp := fun _ => 0) (tr := fun _ => 0) hc ?_
    refine hQ _ _ _ _ _ (fun Q2 hQ2 => ?_)
    exact r_many1 (nr := 0) (nt := 0) (na := 0) (rc := fun _ => 0) (tp := fun _ => 0) (tr := fun _ => 0) hr (hQ2 _ _ _ _ ⟨⟨ns, nl, np, ml, nk, nw, pl, fa, fb, sl, pp, pm, ki, fr, tg, wh, bw, rs, sn, fl, qw, hc, hr⟩, hW, hS, hT, hH, hA, hK⟩)
  by_cases e2 : w = nI 2
  · subst e2
    refine c_many2 (nr := 0) (nt := 0) (na := 0) (rc := fun _ => 0) (tp := fun _ => 0) (tr := fun _ => 0) hc ?_
    refine hQ _ _ _ _ _ (fun Q2 hQ2 => ?_)
    exact r_many2 (nr := 0) (nt := 0) (na := 0) (rc := fun _ => 0) (tp := fun _ => 0) (tr := fun _ => 0) hr (hQ2 _ _ _ _ ⟨⟨ns, nl, np, ml, nk, nw, pl, fa, fb, sl, pp, pm, ki, fr, tg, wh, bw, rs, sn, fl, qw, hc, hr⟩, hW, hS, hT, hH, hA, hK⟩)
  by_cases e3 : w = nI 3
  · subst e3
    refine c_many3 (nr := 0) (nt := 0) (na := 0) (rc := fun _ => 0) (tp := fun _ => 0) (tr := fun _ => 0) hc ?_
    refine hQ _ _ _ _ _ (fun Q2 hQ2 => ?_)
    exact r_many3 (nr := 0) (nt := 0) (na := 0) (rc := fun _ => 0) (tp := fun _ => 0) (tr := fun _ => 0) hr (hQ2 _ _ _ _ ⟨⟨ns, nl, np, ml, nk, nw, pl, fa, fb, sl, pp, pm, ki, fr, tg, wh, bw, rs, sn, fl, qw, hc, hr⟩, hW, hS, hT, hH, hA, hK⟩)
  by_cases e4 : w = nI 4
  · subst e4
    refine c_many4 (nr := 0) (nt := 0) (na := 0) (rc := fun _ => 0) (tp := fun _ => 0) (tr := fun _ => 0) hc ?_
    refine hQ _ _ _ _ _ (fun Q2 hQ2 => ?_)
    exact r_many4 (nr := 0) (nt := 0) (na := 0) (rc := fun _ => 0) (tp := fun _ => 0) (tr := fun _ => 0) hr (fun a b c => hQ2 _ _ _ _ ⟨⟨ns, nl, np, ml, nk, nw, pl, fa, fb, sl, pp, pm, ki, fr, tg, wh, bw, rs, sn, fl, qw, hc, hr⟩, hW, hS, hT, hH, hA, hK⟩)
  by_cases e5 : w = nI 5
  · subst e5
    refine c_many5 (nr := 0) (nt := 0) (na := 0) (rc := fun _ => 0) (tp := fun _ => 0) (tr := fun _ => 0) hc ?_
    refine hQ _ _ _ _ _ (fun Q2 hQ2 => ?_)
    exact r_many5 (nr := 0) (nt := 0) (na := 0) (rc := fun _ => 0) (tp := fun _ => 0) (tr := fun _ => 0) hr (hQ2 _ _ _ _ ⟨⟨ns, nl, np, ml, nk, nw, pl, fa, fb, sl, pp, pm, ki, fr, tg, wh, bw, rs, sn, fl, qw, hc, hr⟩, hW, hS, hT, hH, hA, hK⟩)
  by_cases e6 : w = nI 6
  · subst e6
    refine c_many6 (nt := 0) (na := 0) (tp := fun _ => 0) (tr := fun _ => 0) hc hcR ?_
    refine hQ _ _ _ _ _ (fun Q2 hQ2 => ?_)
    exact r_many6 (nt := 0) (na := 0) (tp := fun _ => 0) (tr := fun _ => 0) hr hrR (hQ2 _ _ _ _ ⟨⟨ns, nl, np, ml, nk, nw, pl, fa, fb, sl, pp, pm, ki, fr, tg, wh, bw, rs, sn, fl, qw, hc, hr⟩, hW, hS, hT, hH, hA, hK⟩)
  by_cases e7 : w = nI 7
  · subst e7
    refine c_many7 (nr := 0) (na := 0) (rc := fun _ => 0) (tr := fun _ => 0) hc hcT ?_
    refine hQ _ _ _ _ _ (fun Q2 hQ2 => ?_)
    exact r_many7 (nr := 0) (na := 0) (rc := fun _ => 0) (tr := fun _ => 0) hr hrT (hQ2 _ _ _ _ ⟨⟨ns, nl, np, ml, nk, nw, pl, fa, fb, sl, pp, pm, ki, fr, tg, wh, bw, rs, sn, fl, qw, hc, hr⟩, hW, hS, hT, hH, hA, hK⟩)
  by_cases e8 : w = nI 8
  · subst e8
    rcases hcA with ⟨rfl, rfl⟩ | ⟨rfl, hq⟩ | ⟨rfl, hq⟩ | ⟨rfl, hq⟩ | ⟨rfl, hq⟩ | ⟨rfl, hq⟩ | ⟨rfl, hq⟩
    · refine c_many80 ?_
      refine hQ _ _ _ _ _ (fun Q2 hQ2 => ?_)
      exact r_many8 (nr := 0) (nt := 0) (rc := fun _ => 0) (tp := fun _ => 0) hr hrA (hQ2 _ _ _ _ ⟨⟨ns, nl, np, ml, nk, nw, pl, fa, fb, sl, pp, pm, ki, fr, tg, wh, bw, rs, sn, fl, qw, hc, hr⟩, hW, hS, hT, hH, hA, hK⟩)
    · refine c_many81 hq ?_
      refine hQ _ _ _ _ _ (fun Q2 hQ2 => ?_)
      exact r_many8 (nr := 0) (nt := 0) (rc := fun _ => 0) (tp := fun _ => 0) hr hrA (hQ2 _ _ _ _ ⟨⟨ns, nl, np, ml, nk, nw, pl, fa, fb, sl, pp, pm, ki, fr, tg, wh, bw, rs, sn, fl, qw, hc, hr⟩, hW, hS, hT, hH, hA, hK⟩)
    · refine c_many82 hq ?_
      refine hQ _ _ _ _ _ (fun Q2 hQ2 => ?_)
      exact r_many8 (nr := 0) (nt := 0) (rc := fun _ => 0) (tp := fun _ => 0) hr hrA (hQ2 _ _ _ _ ⟨⟨ns, nl, np, ml, nk, nw, pl, fa, fb, sl, pp, pm, ki, fr, tg, wh, bw, rs, sn, fl, qw, hc, hr⟩, hW, hS, hT, hH, hA, hK⟩)
    · refine c_many83 hq ?_
      refine hQ _ _ _ _ _ (fun Q2 hQ2 => ?_)
      exact r_many8 (nr := 0) (nt := 0) (rc := fun _ => 0) (tp := fun _ => 0) hr hrA (hQ2 _ _ _ _ ⟨⟨ns, nl, np, ml, nk, nw, pl, fa, fb, sl, pp, pm, ki, fr, tg, wh, bw, rs, sn, fl, qw, hc, hr⟩, hW, hS, hT, hH, hA, hK⟩)
    · refine c_many84 hq ?_
      refine hQ _ _ _ _ _ (fun Q2 hQ2 => ?_)
      exact r_many8 (nr := 0) (nt := 0) (rc := fun _ => 0) (tp := fun _ => 0) hr hrA (hQ2 _ _ _ _ ⟨⟨ns, nl, np, ml, nk, nw, pl, fa, fb, sl, pp, pm, ki, fr, tg, wh, bw, rs, sn, fl, qw, hc, hr⟩, hW, hS, hT, hH, hA, hK⟩)
    · refine c_many85 hq ?_
      refine hQ _ _ _ _ _ (fun Q2 hQ2 => ?_)
      exact r_many8 (nr := 0) (nt := 0) (rc := fun _ => 0) (tp := fun _ => 0) hr hrA (hQ2 _ _ _ _ ⟨⟨ns, nl, np, ml, nk, nw, pl, fa, fb, sl, pp, pm, ki, fr, tg, wh, bw, rs, sn, fl, qw, hc, hr⟩, hW, hS, hT, hH, hA, hK⟩)
    · refine c_many86 hq ?_
      refine hQ _ _ _ _ _ (fun Q2 hQ2 => ?_)
      exact r_many8 (nr := 0) (nt := 0) (rc := fun _ => 0) (tp := fun _ => 0) hr hrA (hQ2 _ _ _ _ ⟨⟨ns, nl, np, ml, nk, nw, pl, fa, fb, sl, pp, pm, ki, fr, tg, wh, bw, rs, sn, fl, qw, hc, hr⟩, hW, hS, hT, hH, hA, hK⟩)
  have hv : ∀ i, i ≤ 8 → ¬ w = nI i := (fun i hi => by
    rcases (show i = 0 ∨ i = 1 ∨ i = 2 ∨ i = 3 ∨ i = 4 ∨ i = 5 ∨ i = 6 ∨ i = 7 ∨ i = 8 by omega) with rfl | rfl | rfl | rfl | rfl | rfl | rfl | rfl | rfl <;> assumption)
  refine c_manyB hv ?_
  refine hQ _ _ _ _ _ (fun Q2 hQ2 => ?_)
  exact r_manyB hv (hQ2 _ _ _ _ ⟨⟨ns, nl, np, ml, nk, nw, pl, fa, fb, sl, pp, pm, ki, fr, tg, wh, bw, rs, sn, fl, qw, hc, hr⟩, hW, hS, hT, hH, hA, hK⟩)
theorem rst8_c {I I2 : hI} {ns nl np ml nk nw : Nat} {pl fa fb sl pp pm ki fr tg wh bw : Nat → Nat} {rs sn : Nat → Int32} {fl : Nat → Bool} {qw : Nat → Nat → Nat → Nat → Bool} (h111 : I2 111 = I 111) (h : rG (rst8 I) ns nl np ml nk nw pl fa fb sl pp pm ki fr tg wh bw rs sn fl qw) : rG (rst8 I2) ns nl np ml nk nw pl fa fb sl pp pm ki fr tg wh bw rs sn fl qw := by
  refine rG_c (fun a z1 z2 => ?_) ?_ ?_ ?_ ?_ ?_ ?_ h
  · rcases (show a = 83 ∨ a = 84 ∨ a = 85 ∨ a = 86 ∨ a = 87 ∨ a = 88 ∨ a = 89 by omega) with rfl | rfl | rfl | rfl | rfl | rfl | rfl
    · funext j; show I2 111 (6 + j) = I 111 (6 + j); rw [h111]
    · funext j; show I2 111 (12 + j) = I 111 (12 + j); rw [h111]
    · funext j; show I2 111 (60 + j) = I 111 (60 + j); rw [h111]
    · funext j; show I2 111 (76 + j) = I 111 (76 + j); rw [h111]
    · funext j; show I2 111 (244 + j) = I 111 (244 + j); rw [h111]
    · funext j; show I2 111 (252 + j) = I 111 (252 + j); rw [h111]
    · funext j; show I2 111 (260 + j) = I 111 (260 + j); rw [h111]
  · show I2 111 0 = I 111 0; rw [h111]
  · show I2 111 1 = I 111 1; rw [h111]
  · show I2 111 2 = I 111 2; rw [h111]
  · show I2 111 5 = I 111 5; rw [h111]
  · show I2 111 3 = I 111 3; rw [h111]
  · show I2 111 4 = I 111 4; rw [h111]
theorem op_keep {l : Launch} {dp : Nat} {I : hI} {J : hJ} {lt tx : Option Nat}  {Q : hQ} (hI : INV I J lt) (hQ : ∀ (rv : Int32) I1 J1 lt1 tx1, ret2 l mX12_keep dp [.ref 82] (.int rv) I1 J1 lt1 tx1 → Q (some (.int rv)) hSH I1 J1 (hRR lt1 tx1)) : HC l mX11_keep (dp + 20) 0 0 [.ref 0] hSH I J (hRR lt tx) Q := by
  obtain ⟨⟨ns, nl, np, ml, nk, nw, pl, fa, fb, sl, pp, pm, ki, fr, tg, wh, bw, rs, sn, fl, qw, hc, hr⟩, hW, hS, hT, hH, hA, hK⟩ := hI
  refine c_keep hc (fun I1 hk1 hA1 h01 h04 => ?_)
  have hr1 : rG I1 ns nl np ml nk nw pl fa fb sl pp pm ki fr tg wh bw rs sn fl qw := rG_c (fun a z1 z2 => hA1 a (by omega) (by omega)) (congrFun (hA1 82 (by omega) (by omega)) 0) (congrFun (hA1 82 (by omega) (by omega)) 2) (congrFun (hA1 82 (by omega) (by omega)) 4) (congrFun (hA1 82 (by omega) (by omega)) 6) (congrFun (hA1 82 (by omega) (by omega)) 7) (congrFun (hA1 82 (by omega) (by omega)) 9) hr
  refine hQ _ _ _ _ _ (fun Q2 hQ2 => ?_)
  refine r_keep hr1 (fun I2 hr8 h50 hA2 h82 => ?_)
  have hA3 : ∀ a, (a < 28 ∨ 54 < a) → a ≠ 0 → a ≠ 82 → a ≠ 111 → a ≠ 112 → I2 a = I a := fun a q1 q2 q3 q4 q5 => (hA2 a q4 q5 q3).trans (hA1 a q1 q2)
  have h83 : ∀ j, j ≠ 50 → j ≠ 52 → I2 82 j = I 82 j := fun j q1 q2 => (h82 j q1 q2).trans (congrFun (hA1 82 (by omega) (by omega)) j)
  have h03 : ∀ j, j ≠ 4 → I2 0 j = I 0 j := fun j q => (congrFun (hA2 0 (by omega) (by omega) (by omega)) j).trans (h01 j q)
  have hc2 : cG I2 ns nl np ml nk nw pl fa fb sl pp pm ki fr tg wh bw rs sn fl qw := cG_c (fun a z1 z2 z3 => hA3 a (by omega) (by omega) (by omega) (by omega) (by omega)) hc
  have hr2 : rG I2 ns nl np ml nk nw pl fa fb sl pp pm ki fr tg wh bw rs sn fl qw := rG_c (fun a z1 z2 => hA3 a (by omega) (by omega) (by omega) (by omega) (by omega)) (h83 0 (by decide) (by decide)) (h83 2 (by decide) (by decide)) (h83 4 (by decide) (by decide)) (h83 6 (by decide) (by decide)) (h83 7 (by decide) (by decide)) (h83 9 (by decide) (by decide)) hr
  exact hQ2 _ _ _ _ ⟨⟨ns, nl, np, ml, nk, nw, pl, fa, fb, sl, pp, pm, ki, fr, tg, wh, bw, rs, sn, fl, qw, hc2, hr2⟩, PW_c (h03 9 (by decide)) (hA3 62 (by omega) (by omega) (by omega) (by omega) (by omega)) (h83 37 (by decide) (by decide)) (hA3 103 (by omega) (by omega) (by omega) (by omega) (by omega)) hW, PS_c (hA3 63 (by omega) (by omega) (by omega) (by omega) (by omega)) (hA3 64 (by omega) (by omega) (by omega) (by omega) (by omega)) (hA3 104 (by omega) (by omega) (by omega) (by omega) (by omega)) (hA3 105 (by omega) (by omega) (by omega) (by omega) (by omega)) rfl rfl hS, PT_c (h03 7 (by decide)) (hA3 61 (by omega) (by omega) (by omega) (by omega) (by omega)) (h83 22 (by decide) (by decide)) (hA3 96 (by omega) (by omega) (by omega) (by omega) (by omega)) hT, PH_c (hA3 66 (by omega) (by omega) (by omega) (by omega) (by omega)) (hA3 67 (by omega) (by omega) (by omega) (by omega) (by omega)) (hA3 68 (by omega) (by omega) (by omega) (by omega) (by omega)) (hA3 107 (by omega) (by omega) (by omega) (by omega) (by omega)) (hA3 108 (by omega) (by omega) (by omega) (by omega) (by omega)) (hA3 109 (by omega) (by omega) (by omega) (by omega) (by omega)) hH, PA_c (fun a z1 z2 => hA3 a (by omega) (by omega) (by omega) (by omega) (by omega)) (h83 48 (by decide) (by decide)) (hA3 110 (by omega) (by omega) (by omega) (by omega) (by omega)) hA, .inr ⟨(congrFun (hA2 0 (by omega) (by omega) (by omega)) 4).trans h04, h50, ns, nl, np, ml, nk, nw, pl, fa, fb, sl, pp, pm, ki, fr, tg, wh, bw, rs, sn, fl, qw, kG_c (fun a z1 z2 => hA2 a (by omega) (by omega) (by omega)) hk1, hr8⟩⟩
theorem op_back {l : Launch} {dp : Nat} {I : hI} {J : hJ} {lt tx : Option Nat}  {Q : hQ} (hI : INV I J lt) (hQ : ∀ (rv : Int32) I1 J1 lt1 tx1, ret2 l mX12_back dp [.ref 82] (.int rv) I1 J1 lt1 tx1 → Q (some (.int rv)) hSH I1 J1 (hRR lt1 tx1)) : HC l mX11_back (dp + 20) 0 0 [.ref 0] hSH I J (hRR lt tx) Q := by
  obtain ⟨⟨ns, nl, np, ml, nk, nw, pl, fa, fb, sl, pp, pm, ki, fr, tg, wh, bw, rs, sn, fl, qw, hc, hr⟩, hW, hS, hT, hH, hA, hK⟩ := hI
  rcases id hK with ⟨q0, q50⟩ | ⟨q1, q50, ns2, nl2, np2, ml2, nk2, nw2, pl2, fa2, fb2, sl2, pp2, pm2, ki2, fr2, tg2, wh2, bw2, rs2, sn2, fl2, qw2, hk2, hr8⟩
  · refine c_back0 q0 ?_
    refine hQ _ _ _ _ _ (fun Q2 hQ2 => ?_)
    exact r_back0 q50 (hQ2 _ _ _ _ ⟨⟨ns, nl, np, ml, nk, nw, pl, fa, fb, sl, pp, pm, ki, fr, tg, wh, bw, rs, sn, fl, qw, hc, hr⟩, hW, hS, hT, hH, hA, hK⟩)
  · refine c_back q1 hk2 (fun I1 hc1 hA1 => ?_)
    refine hQ _ _ _ _ _ (fun Q2 hQ2 => ?_)
    refine r_back ((congrFun (hA1 82 (by omega)) 50).trans q50) (rst8_c (hA1 111 (by omega)) hr8) (fun I2 hr2 hA2 h82 => ?_)
    have hA3 : ∀ a, a < 1 ∨ (27 < a ∧ a < 82) ∨ (89 < a ∧ a ≠ 112) → I2 a = I a := fun a q => (hA2 a (by omega)).trans (hA1 a (by omega))
    have h83 : ∀ j, j ≠ 0 → j ≠ 2 → j ≠ 4 → j ≠ 7 → j ≠ 9 → j ≠ 6 → j ≠ 52 → I2 82 j = I 82 j := fun j z0 z2 z4 z7 z9 z6 z52 => (h82 j z0 z2 z4 z7 z9 z6 z52).trans (congrFun (hA1 82 (by omega)) j)
    have hc2 : cG I2 ns2 nl2 np2 ml2 nk2 nw2 pl2 fa2 fb2 sl2 pp2 pm2 ki2 fr2 tg2 wh2 bw2 rs2 sn2 fl2 qw2 := cG_c (fun a z1 z2 z3 => hA2 a (by omega)) hc1
    exact hQ2 _ _ _ _ ⟨⟨ns2, nl2, np2, ml2, nk2, nw2, pl2, fa2, fb2, sl2, pp2, pm2, ki2, fr2, tg2, wh2, bw2, rs2, sn2, fl2, qw2, hc2, hr2⟩, PW_c (congrFun (hA3 0 (by omega)) 9) (hA3 62 (by omega)) (h83 37 (by decide) (by decide) (by decide) (by decide) (by decide) (by decide) (by decide)) (hA3 103 (by omega)) hW, PS_c (hA3 63 (by omega)) (hA3 64 (by omega)) (hA3 104 (by omega)) (hA3 105 (by omega)) rfl rfl hS, PT_c (congrFun (hA3 0 (by omega)) 7) (hA3 61 (by omega)) (h83 22 (by decide) (by decide) (by decide) (by decide) (by decide) (by decide) (by decide)) (hA3 96 (by omega)) hT, PH_c (hA3 66 (by omega)) (hA3 67 (by omega)) (hA3 68 (by omega)) (hA3 107 (by omega)) (hA3 108 (by omega)) (hA3 109 (by omega)) hH, PA_c (fun a z1 z2 => hA3 a (by omega)) (h83 48 (by decide) (by decide) (by decide) (by decide) (by decide) (by decide) (by decide)) (hA3 110 (by omega)) hA, PK_c (congrFun (hA3 0 (by omega)) 4) (h83 50 (by decide) (by decide) (by decide) (by decide) (by decide) (by decide) (by decide)) (fun a z1 z2 => hA3 a (by omega)) (hA3 111 (by omega)) hK⟩
