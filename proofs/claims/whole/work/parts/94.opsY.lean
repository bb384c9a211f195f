theorem op_feed {l : Launch} {dp : Nat} {I : hI} {J : hJ} {lt tx : Option Nat} {v : Int64} {n : Int32} {Q : hQ} (hI : INV I J lt) (hQ : ∀ (rv : Int32) I1 J1 lt1 tx1, ret2 l mX12_feed dp [.ref 82, .long v, .int n] (.int rv) I1 J1 lt1 tx1 → Q (some (.int rv)) hSH I1 J1 (hRR lt1 tx1)) : HC l mX11_feed (dp + 20) 0 0 [.ref 0, .long v, .int n] hSH I J (hRR lt tx) Q := by
  obtain ⟨⟨ns, nl, np, ml, nk, nw, pl, fa, fb, sl, pp, pm, ki, fr, tg, wh, bw, rs, sn, fl, qw, hc, hr⟩, hW, hS, ⟨nt, tp, hcT, hrT⟩, hH, hA, hK⟩ := hI
  have h200 := hcT.2.1
  refine c_feed2 hcT (fun nb => ?_) (fun k hn h1 h8 hf => ?_) (fun k hn h1 h8 hf I1 hF1 hcT1 => ?_)
  · refine hQ _ _ _ _ _ (fun Q2 hQ2 => ?_)
    exact r_feed2 hrT (fun _ => hQ2 _ _ _ _ ⟨⟨ns, nl, np, ml, nk, nw, pl, fa, fb, sl, pp, pm, ki, fr, tg, wh, bw, rs, sn, fl, qw, hc, hr⟩, hW, hS, ⟨nt, tp, hcT, hrT⟩, hH, hA, hK⟩) (fun k hn h1 h8 _ => absurd (rng_in hn h1 h8 (by omega)) nb) (fun k hn h1 h8 _ _ _ _ => absurd (rng_in hn h1 h8 (by omega)) nb)
  · refine hQ _ _ _ _ _ (fun Q2 hQ2 => ?_)
    refine r_feed2 hrT (fun nb => absurd (rng_in hn h1 h8 (by omega)) nb) (fun k2 hn2 _ _ _ => hQ2 _ _ _ _ ⟨⟨ns, nl, np, ml, nk, nw, pl, fa, fb, sl, pp, pm, ki, fr, tg, wh, bw, rs, sn, fl, qw, hc, hr⟩, hW, hS, ⟨nt, tp, hcT, hrT⟩, hH, hA, hK⟩) (fun k2 hn2 _ _ hf2 _ _ _ => ?_)
    obtain rfl := nI_u hn hn2 (by omega) (by omega)
    exact absurd hf2 (by omega)
  · obtain ⟨g61, v07, rfl⟩ := hF1
    refine hQ _ _ _ _ _ (fun Q2 hQ2 => ?_)
    refine r_feed2 (show rT _ nt tp from hrT) (fun nb => absurd (rng_in hn h1 h8 (by omega)) nb) (fun k2 hn2 _ _ hf2 => ?_) (fun k2 hn2 _ _ _ I2 hF2 hrT2 => ?_)
    · obtain rfl := nI_u hn hn2 (by omega) (by omega)
      exact absurd hf2 (by omega)
    · obtain rfl := nI_u hn hn2 (by omega) (by omega)
      obtain ⟨g96, v22, rfl⟩ := hF2
      exact hQ2 _ _ _ _ ⟨⟨ns, nl, np, ml, nk, nw, pl, fa, fb, sl, pp, pm, ki, fr, tg, wh, bw, rs, sn, fl, qw, hc, hr⟩, hW, hS, ⟨_, _, hcT1, hrT2⟩, hH, hA, hK⟩
theorem cG_law {I I2 : hI} {ns nl np ml nk nw : Nat} {pl fa fb sl pp pm ki fr tg wh bw : Nat → Nat} {rs sn : Nat → Int32} {fl : Nat → Bool} {qw : Nat → Nat → Nat → Nat → Bool} {nw2 : Nat} {bw2 : Nat → Nat} {qw2 : Nat → Nat → Nat → Nat → Bool} (h : ∀ a, 1 ≤ a → a ≤ 24 → a ≠ 11 → (a < 12 ∨ 17 < a) → I2 a = I a) (hL : cL I2 12 nw2 bw2 qw2) (hG : cG I ns nl np ml nk nw pl fa fb sl pp pm ki fr tg wh bw rs sn fl qw) : cG I2 ns nl np ml nk nw2 pl fa fb sl pp pm ki fr tg wh bw2 rs sn fl qw2 := by
  obtain ⟨hNF, hw, hV, hvw, -⟩ := hG
  have e : (fun a => if 1 ≤ a ∧ a ≤ 24 ∧ a ≠ 11 ∧ (a < 12 ∨ 17 < a) then I a else I2 a) = I2 := by
    funext a
    by_cases q : 1 ≤ a ∧ a ≤ 24 ∧ a ≠ 11 ∧ (a < 12 ∨ 17 < a)
    · rw [if_pos q, h a q.1 q.2.1 q.2.2.1 q.2.2.2]
    · rw [if_neg q]
  refine ⟨?_, hw, ?_, hvw, hL⟩
  · rw [← e]
    exact hNF
  · rw [← e]
    exact hV
theorem op_read {l : Launch} {dp : Nat} {I : hI} {J : hJ} {lt tx : Option Nat}  {Q : hQ} (hI : INV I J lt) (hQ : ∀ (rv : Int32) I1 J1 lt1 tx1, ret2 l mX12_read dp [.ref 82] (.int rv) I1 J1 lt1 tx1 → Q (some (.int rv)) hSH I1 J1 (hRR lt1 tx1)) : HC l mX11_read (dp + 20) 0 0 [.ref 0] hSH I J (hRR lt tx) Q := by
  obtain ⟨⟨ns, nl, np, ml, nk, nw, pl, fa, fb, sl, pp, pm, ki, fr, tg, wh, bw, rs, sn, fl, qw, hc, hr⟩, hW, hS, ⟨nt, tp, hcT, hrT⟩, hH, hA, hK⟩ := hI
  refine c_read hcT (fun I1 f hrd hf hA1 h01 h07 => ?_) (fun I1 n bw2 qw2 hrd hA1 h01 h07 hL1 => ?_)
  · have hc1 : cG I1 ns nl np ml nk nw pl fa fb sl pp pm ki fr tg wh bw rs sn fl qw := cG_c (fun a z1 z2 z3 => hA1 a (by omega) (by omega)) hc
    have h82 := hA1 82 (by omega) (by omega)
    have hr1 : rG I1 ns nl np ml nk nw pl fa fb sl pp pm ki fr tg wh bw rs sn fl qw := rG_c (fun a z1 z2 => hA1 a (by omega) (by omega)) (congrFun h82 0) (congrFun h82 2) (congrFun h82 4) (congrFun h82 6) (congrFun h82 7) (congrFun h82 9) hr
    have hW1 : PW I1 := PW_c (h01 9 (by decide)) (hA1 62 (by omega) (by omega)) (congrFun h82 37) (hA1 103 (by omega) (by omega)) hW
    have hS1 : PS I1 J := PS_c (hA1 63 (by omega) (by omega)) (hA1 64 (by omega) (by omega)) (hA1 104 (by omega) (by omega)) (hA1 105 (by omega) (by omega)) rfl rfl hS
    have hH1 : PH I1 := PH_c (hA1 66 (by omega) (by omega)) (hA1 67 (by omega) (by omega)) (hA1 68 (by omega) (by omega)) (hA1 107 (by omega) (by omega)) (hA1 108 (by omega) (by omega)) (hA1 109 (by omega) (by omega)) hH
    have hA9 : PA I1 lt := PA_c (fun a z1 z2 => hA1 a (by omega) (by omega)) (congrFun h82 48) (hA1 110 (by omega) (by omega)) hA
    have hK1 : PK I1 := PK_c (h01 4 (by decide)) (congrFun h82 50) (fun a z1 z2 => hA1 a (by omega) (by omega)) (hA1 111 (by omega) (by omega)) hK
    have hrT1 : rT I1 nt tp := by
      unfold rT
      rw [h82, hA1 96 (by omega) (by omega)]
      exact hrT
    refine hQ _ _ _ _ _ (fun Q2 hQ2 => ?_)
    refine r_read hrT1 (fun I2 J2 f2 hrd2 _ hM2 hJ2 h22 => ?_) (fun I2 J2 n2 bw2 qw2 hrd2 => ?_)
    · rw [hrd] at hrd2
      cases hrd2
      obtain ⟨jv, rfl⟩ := hJ2
      obtain ⟨g1, g2, g3, g4, v1, v2, v3, v4, v5, v6, v7, rfl⟩ := hM2
      exact hQ2 _ _ _ _ ⟨⟨ns, nl, np, ml, nk, nw, pl, fa, fb, sl, pp, pm, ki, fr, tg, wh, bw, rs, sn, fl, qw, hc1, hr1⟩, hW1, hS1, ⟨0, tp, ⟨h07, by omega, fun j hj => absurd hj (by omega)⟩, ⟨h22, by omega, fun j hj => absurd hj (by omega)⟩⟩, hH1, hA9, hK1⟩
    · rw [hrd] at hrd2
      cases hrd2
  · have hc1 := cG_law (fun a z1 z2 z3 z4 => hA1 a (by omega) (by omega) z4) hL1 hc
    have h82 := hA1 82 (by omega) (by omega) (by omega)
    have hr1 : rG I1 ns nl np ml nk nw pl fa fb sl pp pm ki fr tg wh bw rs sn fl qw := rG_c (fun a z1 z2 => hA1 a (by omega) (by omega) (by omega)) (congrFun h82 0) (congrFun h82 2) (congrFun h82 4) (congrFun h82 6) (congrFun h82 7) (congrFun h82 9) hr
    have hW1 : PW I1 := PW_c (h01 9 (by decide)) (hA1 62 (by omega) (by omega) (by omega)) (congrFun h82 37) (hA1 103 (by omega) (by omega) (by omega)) hW
    have hS1 : PS I1 J := PS_c (hA1 63 (by omega) (by omega) (by omega)) (hA1 64 (by omega) (by omega) (by omega)) (hA1 104 (by omega) (by omega) (by omega)) (hA1 105 (by omega) (by omega) (by omega)) rfl rfl hS
    have hH1 : PH I1 := PH_c (hA1 66 (by omega) (by omega) (by omega)) (hA1 67 (by omega) (by omega) (by omega)) (hA1 68 (by omega) (by omega) (by omega)) (hA1 107 (by omega) (by omega) (by omega)) (hA1 108 (by omega) (by omega) (by omega)) (hA1 109 (by omega) (by omega) (by omega)) hH
    have hA9 : PA I1 lt := PA_c (fun a z1 z2 => hA1 a (by omega) (by omega) (by omega)) (congrFun h82 48) (hA1 110 (by omega) (by omega) (by omega)) hA
    have hK1 : PK I1 := PK_c (h01 4 (by decide)) (congrFun h82 50) (fun a z1 z2 => hA1 a (by omega) (by omega) (by omega)) (hA1 111 (by omega) (by omega) (by omega)) hK
    have hrT1 : rT I1 nt tp := by
      unfold rT
      rw [h82, hA1 96 (by omega) (by omega) (by omega)]
      exact hrT
    refine hQ _ _ _ _ _ (fun Q2 hQ2 => ?_)
    refine r_read hrT1 (fun I2 J2 f2 hrd2 => ?_) (fun I2 J2 n2 bw3 qw3 hrd2 hD2 hJ2 h22 hW2 => ?_)
    · rw [hrd] at hrd2
      cases hrd2
    · rw [hrd] at hrd2
      cases hrd2
      obtain ⟨jv, rfl⟩ := hJ2
      obtain ⟨g1, g2, g3, g4, g5, g6, g7, v0, v1, v2, v3, v4, v5, v6, v7, rfl⟩ := hD2
      exact hQ2 _ _ _ _ ⟨⟨ns, nl, np, ml, nk, _, pl, fa, fb, sl, pp, pm, ki, fr, tg, wh, _, rs, sn, fl, _, hc1, ⟨hr1.1, hr1.2.1, hr1.2.2.1, hr1.2.2.2.1, hW2⟩⟩, hW1, hS1, ⟨0, tp, ⟨h07, by omega, fun j hj => absurd hj (by omega)⟩, ⟨h22, by omega, fun j hj => absurd hj (by omega)⟩⟩, hH1, hA9, hK1⟩
theorem op_prove {l : Launch} {dp : Nat} {I : hI} {J : hJ} {lt tx : Option Nat}  {Q : hQ} (hI : INV I J lt) (hQ : ∀ (rv : Int32) I1 J1 lt1 tx1, ret2 l mX12_prove dp [.ref 82] (.int rv) I1 J1 lt1 tx1 → Q (some (.int rv)) hSH I1 J1 (hRR lt1 tx1)) : HC l mX11_prove (dp + 20) 0 0 [.ref 0] hSH I J (hRR lt tx) Q := by
  obtain ⟨⟨ns, nl, np, ml, nk, nw, pl, fa, fb, sl, pp, pm, ki, fr, tg, wh, bw, rs, sn, fl, qw, hc, hr⟩, hW, hS, hT, hH, hA, hK⟩ := hI
  refine c_prove hc (fun I1 hP1 hcR1 => ?_)
  obtain ⟨g62, v9, rfl⟩ := hP1
  refine hQ _ _ _ _ _ (fun Q2 hQ2 => ?_)
  refine r_prove (show rG _ ns nl np ml nk nw pl fa fb sl pp pm ki fr tg wh bw rs sn fl qw from hr) (fun I2 hP2 hrR2 => ?_)
  obtain ⟨g90, g91, g92, g103, v37, rfl⟩ := hP2
  exact hQ2 _ _ _ _ ⟨⟨ns, nl, np, ml, nk, nw, pl, fa, fb, sl, pp, pm, ki, fr, tg, wh, bw, rs, sn, fl, qw, hc, hr⟩, ⟨_, _, hcR1, hrR2⟩, hS, hT, hH, hA, hK⟩
theorem op_row {l : Launch} {dp : Nat} {I : hI} {J : hJ} {lt tx : Option Nat} {x : Int32} {w : Int32} {Q : hQ} (hI : INV I J lt) (hQ : ∀ (rv : Int32) I1 J1 lt1 tx1, ret2 l mX12_row dp [.ref 82, .int x, .int w] (.int rv) I1 J1 lt1 tx1 → Q (some (.int rv)) hSH I1 J1 (hRR lt1 tx1)) : HC l mX11_row (dp + 20) 0 0 [.ref 0, .int x, .int w] hSH I J (hRR lt tx) Q := by
  obtain ⟨⟨ns, nl, np, ml, nk, nw, pl, fa, fb, sl, pp, pm, ki, fr, tg, wh, bw, rs, sn, fl, qw, hc, hr⟩, ⟨nr, rc, hcR, hrR⟩, hS, hT, hH, hA, hK⟩ := hI
  have k6 := hcR.2.1
  refine c_row hcR (fun nb => ?_) (fun i y hi hy hx hw9 => ?_)
  · refine hQ _ _ _ _ _ (fun Q2 hQ2 => ?_)
    exact r_row hrR (fun _ => hQ2 _ _ _ _ ⟨⟨ns, nl, np, ml, nk, nw, pl, fa, fb, sl, pp, pm, ki, fr, tg, wh, bw, rs, sn, fl, qw, hc, hr⟩, ⟨nr, rc, hcR, hrR⟩, hS, hT, hH, hA, hK⟩) (fun i y hi hy hx hw9 => absurd ⟨⟨i, hi, hx⟩, rng_in hw9 (Nat.zero_le _) hy (by omega)⟩ nb)
  · refine hQ _ _ _ _ _ (fun Q2 hQ2 => ?_)
    refine r_row hrR (fun nb => absurd ⟨⟨i, hi, hx⟩, rng_in hw9 (Nat.zero_le _) hy (by omega)⟩ nb) (fun i2 y2 hi2 hy2 hx2 hw2 => ?_)
    obtain rfl := nI_u hx hx2 (by omega) (by omega)
    obtain rfl := nI_u hw9 hw2 (by omega) (by omega)
    exact hQ2 _ _ _ _ ⟨⟨ns, nl, np, ml, nk, nw, pl, fa, fb, sl, pp, pm, ki, fr, tg, wh, bw, rs, sn, fl, qw, hc, hr⟩, ⟨nr, rc, hcR, hrR⟩, hS, hT, hH, hA, hK⟩
theorem row_up {g rc : Nat → Int32} {n j : Nat} {u : Int32} (h : ∀ q, q < n → g q = rc q) : ∀ q, q < n → upd g j u q = upd rc j u q := fun q hq => by
  by_cases e : q = j
  · subst e; rw [upd_s, upd_s]
  · rw [upd_n _ _ e, upd_n _ _ e]; exact h q hq
theorem op_alterRow {l : Launch} {dp : Nat} {I : hI} {J : hJ} {lt tx : Option Nat} {x : Int32} {w : Int32} {u : Int32} {Q : hQ} (hI : INV I J lt) (hQ : ∀ (rv : Int32) I1 J1 lt1 tx1, ret2 l mX12_alterRow dp [.ref 82, .int x, .int w, .int u] (.int rv) I1 J1 lt1 tx1 → Q (some (.int rv)) hSH I1 J1 (hRR lt1 tx1)) : HC l mX11_alterRow (dp + 20) 0 0 [.ref 0, .int x, .int w, .int u] hSH I J (hRR lt tx) Q := by
  obtain ⟨⟨ns, nl, np, ml, nk, nw, pl, fa, fb, sl, pp, pm, ki, fr, tg, wh, bw, rs, sn, fl, qw, hc, hr⟩, ⟨nr, rc, hcR, hrR⟩, hS, hT, hH, hA, hK⟩ := hI
  have k6 := hcR.2.1
  refine c_alterRow hcR (fun nb => ?_) (fun i y hi hy hx hw9 => ?_)
  · refine hQ _ _ _ _ _ (fun Q2 hQ2 => ?_)
    exact r_alterRow hrR (fun _ => hQ2 _ _ _ _ ⟨⟨ns, nl, np, ml, nk, nw, pl, fa, fb, sl, pp, pm, ki, fr, tg, wh, bw, rs, sn, fl, qw, hc, hr⟩, ⟨nr, rc, hcR, hrR⟩, hS, hT, hH, hA, hK⟩) (fun i y hi hy hx hw9 => absurd ⟨⟨i, hi, hx⟩, rng_in hw9 (Nat.zero_le _) hy (by omega)⟩ nb)
  · refine hQ _ _ _ _ _ (fun Q2 hQ2 => ?_)
    refine r_alterRow (show rR _ nr rc from hrR) (fun nb => absurd ⟨⟨i, hi, hx⟩, rng_in hw9 (Nat.zero_le _) hy (by omega)⟩ nb) (fun i2 y2 hi2 hy2 hx2 hw2 => ?_)
    obtain rfl := nI_u hx hx2 (by omega) (by omega)
    obtain rfl := nI_u hw9 hw2 (by omega) (by omega)
    exact hQ2 _ _ _ _ ⟨⟨ns, nl, np, ml, nk, nw, pl, fa, fb, sl, pp, pm, ki, fr, tg, wh, bw, rs, sn, fl, qw, hc, hr⟩, ⟨nr, upd rc _ u, ⟨hcR.1, k6, row_up hcR.2.2⟩, ⟨hrR.1, k6, row_up hrR.2.2⟩⟩, hS, hT, hH, hA, hK⟩
theorem op_judge {l : Launch} {dp : Nat} {I : hI} {J : hJ} {lt tx : Option Nat}  {Q : hQ} (hI : INV I J lt) (hQ : ∀ (rv : Int32) I1 J1 lt1 tx1, ret2 l mX12_judge dp [.ref 82] (.int rv) I1 J1 lt1 tx1 → Q (some (.int rv)) hSH I1 J1 (hRR lt1 tx1)) : HC l mX11_judge (dp + 20) 0 0 [.ref 0] hSH I J (hRR lt tx) Q := by
  obtain ⟨⟨ns, nl, np, ml, nk, nw, pl, fa, fb, sl, pp, pm, ki, fr, tg, wh, bw, rs, sn, fl, qw, hc, hr⟩, ⟨nr, rc, hcR, hrR⟩, hS, hT, hH, hA, hK⟩ := hI
  refine c_judge hc hcR ?_
  refine hQ _ _ _ _ _ (fun Q2 hQ2 => ?_)
  refine r_judge hr hrR (fun a b c => ?_)
  exact hQ2 _ _ _ _ ⟨⟨ns, nl, np, ml, nk, nw, pl, fa, fb, sl, pp, pm, ki, fr, tg, wh, bw, rs, sn, fl, qw, hc, hr⟩, ⟨nr, rc, hcR, hrR⟩, hS, hT, hH, hA, hK⟩
theorem cSh_sh {I I2 : hI} {J J2 : hJ} {so : Nat → Int32} {si : Nat → Nat} {it : Nat → Nat → Int64} {s k : Nat} {w : Int32} (hS : cSh I J so si it) (hk : k ≤ 40) (hw : soW w) (a1 : I2 63 = upd (I 63) s w) (a2 : I2 64 = upd (I 64) s (nI k)) (hj : ∀ t j, j < 40 → t ≠ s → J2 65 (40 * t + j) = J 65 (40 * t + j)) (hz : ∀ j, j < k → J2 65 (40 * s + j) = 0) : cSh I2 J2 (upd so s w) (upn si s k) (fun t j => if t = s then 0 else it t j) := by
  intro t ht
  obtain ⟨b1, b2, b3, b4, b5⟩ := hS t ht
  rw [a1, a2]
  by_cases e : t = s
  · subst e
    rw [upd_s, upd_s, upd_s, upn_s]
    exact ⟨rfl, rfl, hk, hw, fun j hj => (hz j hj).trans (if_pos rfl).symm⟩
  · rw [upd_n _ _ e, upd_n _ _ e, upd_n _ _ e, upn_n _ _ e]
    exact ⟨b1, b2, b3, b4, fun j hj2 => ((hj t j (by omega) e).trans (b5 j hj2)).trans (if_neg e).symm⟩
theorem rSh_sh {I I2 : hI} {J J2 : hJ} {so : Nat → Int32} {si : Nat → Nat} {it : Nat → Nat → Int64} {s k : Nat} {w : Int32} (hS : rSh I J so si it) (hk : k ≤ 40) (hw : soW w) (a1 : I2 104 = upd (I 104) s w) (a2 : I2 105 = upd (I 105) s (nI k)) (hj : ∀ t j, j < 40 → t ≠ s → J2 106 (40 * t + j) = J 106 (40 * t + j)) (hz : ∀ j, j < k → J2 106 (40 * s + j) = 0) : rSh I2 J2 (upd so s w) (upn si s k) (fun t j => if t = s then 0 else it t j) := by
  intro t ht
  obtain ⟨b1, b2, b3, b4, b5⟩ := hS t ht
  rw [a1, a2]
  by_cases e : t = s
  · subst e
    rw [upd_s, upd_s, upd_s, upn_s]
    exact ⟨rfl, rfl, hk, hw, fun j hj => (hz j hj).trans (if_pos rfl).symm⟩
  · rw [upd_n _ _ e, upd_n _ _ e, upd_n _ _ e, upn_n _ _ e]
    exact ⟨b1, b2, b3, b4, fun j hj2 => ((hj t j (by omega) e).trans (b5 j hj2)).trans (if_neg e).symm⟩
theorem soW_of {w : Int32} (h : -1 ≤ w ∧ w ≤ nI 3) : soW w := by
  have h1 := Int32.le_iff_toInt_le.mp h.1
  have h2 := Int32.le_iff_toInt_le.mp h.2
  rw [nI_toInt (by omega)] at h2
  have h1 : (-1 : Int) ≤ w.toInt := h1
  rcases (show w.toInt = -1 ∨ w.toInt = 0 ∨ w.toInt = 1 ∨ w.toInt = 2 ∨ w.toInt = 3 by omega) with q | q | q | q | q
  · exact .inl (Int32.toInt_inj.mp q)
  · exact .inr (.inl (Int32.toInt_inj.mp (q.trans (nI_toInt (n := 0) (by decide)).symm)))
  · exact .inr (.inr (.inl (Int32.toInt_inj.mp (q.trans (nI_toInt (n := 1) (by decide)).symm))))
  · exact .inr (.inr (.inr (.inl (Int32.toInt_inj.mp (q.trans (nI_toInt (n := 2) (by decide)).symm)))))
  · exact .inr (.inr (.inr (.inr (Int32.toInt_inj.mp (q.trans (nI_toInt (n := 3) (by decide)).symm)))))
theorem op_sheet {l : Launch} {dp : Nat} {I : hI} {J : hJ} {lt tx : Option Nat} {x : Int32} {w : Int32} {n : Int32} {Q : hQ} (hI : INV I J lt) (hQ : ∀ (rv : Int32) I1 J1 lt1 tx1, ret2 l mX12_sheet dp [.ref 82, .int x, .int w, .int n] (.int rv) I1 J1 lt1 tx1 → Q (some (.int rv)) hSH I1 J1 (hRR lt1 tx1)) : HC l mX11_sheet (dp + 20) 0 0 [.ref 0, .int x, .int w, .int n] hSH I J (hRR lt tx) Q := by
  obtain ⟨⟨ns, nl, np, ml, nk, nw, pl, fa, fb, sl, pp, pm, ki, fr, tg, wh, bw, rs, sn, fl, qw, hc, hr⟩, hW, ⟨so, si, it, hcS, hrS⟩, hT, hH, hA, hK⟩ := hI
  refine c_sheet (fun nb => ?_) (fun ok hw1 h => ?_) (fun s J1 hx hs hw1 hJ => ?_) (fun s k J1 hx hn hs hk hw1 hw2 hJ => ?_)
  · refine hQ _ _ _ _ _ (fun Q2 hQ2 => ?_)
    exact r_sheet (fun _ => hQ2 _ _ _ _ ⟨⟨ns, nl, np, ml, nk, nw, pl, fa, fb, sl, pp, pm, ki, fr, tg, wh, bw, rs, sn, fl, qw, hc, hr⟩, hW, ⟨so, si, it, hcS, hrS⟩, hT, hH, hA, hK⟩) (fun ok => absurd ok nb) (fun s J1 hx hs hw1 hJ => absurd ⟨rng_in hx (Nat.zero_le _) (show s ≤ 3 by omega) (by omega), by rw [hw1]; decide, .inl hw1⟩ nb) (fun s k J1 hx hn hs hk hw1 hw2 hJ => absurd ⟨rng_in hx (Nat.zero_le _) (show s ≤ 3 by omega) (by omega), hw2, .inr (rng_in hn (Nat.zero_le _) hk (by omega)).2⟩ nb)
  · refine hQ _ _ _ _ _ (fun Q2 hQ2 => ?_)
    exact r_sheet (fun nb => absurd ok nb) (fun _ _ _ => hQ2 _ _ _ _ ⟨⟨ns, nl, np, ml, nk, nw, pl, fa, fb, sl, pp, pm, ki, fr, tg, wh, bw, rs, sn, fl, qw, hc, hr⟩, hW, ⟨so, si, it, hcS, hrS⟩, hT, hH, hA, hK⟩) (fun s J1 hx hs hw2 hJ => absurd hw2 hw1) (fun s k J1 hx hn hs hk hw1 hw2 hJ => absurd h (Int32.not_lt.mpr (rng_in hn (Nat.zero_le _) hk (by omega)).1))
  · refine hQ _ _ _ _ _ (fun Q2 hQ2 => ?_)
    refine r_sheet (fun nb => absurd ⟨rng_in hx (Nat.zero_le _) (show s ≤ 3 by omega) (by omega), by rw [hw1]; decide, .inl hw1⟩ nb) (fun _ hw2 => absurd hw1 hw2) (fun s2 J2 hx2 hs2 _ hJ2 => ?_) (fun s k J1 hx hn hs hk hw2 _ hJ => absurd hw1 hw2)
    obtain rfl := nI_u hx hx2 (by omega) (by omega)
    exact hQ2 _ _ _ _ ⟨⟨ns, nl, np, ml, nk, nw, pl, fa, fb, sl, pp, pm, ki, fr, tg, wh, bw, rs, sn, fl, qw, hc, hr⟩, hW, ⟨_, _, _, cSh_sh (s := s2) (k := 0) (w := -1) hcS (by omega) (.inl rfl) rfl rfl (fun t j q1 q2 => (congrFun (hJ2.1 65 (by decide)) _).trans (hJ.2.1 t j q1 q2)) (fun j hj => (congrFun (hJ2.1 65 (by decide)) _).trans (hJ.2.2 j hj)), rSh_sh (s := s2) (k := 0) (w := -1) hrS (by omega) (.inl rfl) rfl rfl (fun t j q1 q2 => (hJ2.2.1 t j q1 q2).trans (congrFun (hJ.1 106 (by decide)) _)) hJ2.2.2⟩, hT, hH, hA, hK⟩
  · refine hQ _ _ _ _ _ (fun Q2 hQ2 => ?_)
    refine r_sheet (fun nb => absurd ⟨rng_in hx (Nat.zero_le _) (show s ≤ 3 by omega) (by omega), hw2, .inr (rng_in hn (Nat.zero_le _) hk (by omega)).2⟩ nb) (fun _ _ h => absurd h (Int32.not_lt.mpr (rng_in hn (Nat.zero_le _) hk (by omega)).1)) (fun s2 J2 hx2 hs2 hw3 hJ2 => absurd hw3 hw1) (fun s2 k2 J2 hx2 hn2 hs2 hk2 _ _ hJ2 => ?_)
    obtain rfl := nI_u hx hx2 (by omega) (by omega)
    obtain rfl := nI_u hn hn2 (by omega) (by omega)
    exact hQ2 _ _ _ _ ⟨⟨ns, nl, np, ml, nk, nw, pl, fa, fb, sl, pp, pm, ki, fr, tg, wh, bw, rs, sn, fl, qw, hc, hr⟩, hW, ⟨_, _, _, cSh_sh (s := s2) (k := k2) (w := w) hcS hk2 (soW_of hw2) rfl rfl (fun t j q1 q2 => (congrFun (hJ2.1 65 (by decide)) _).trans (hJ.2.1 t j q1 q2)) (fun j hj => (congrFun (hJ2.1 65 (by decide)) _).trans (hJ.2.2 j hj)), rSh_sh (s := s2) (k := k2) (w := w) hrS hk2 (soW_of hw2) rfl rfl (fun t j q1 q2 => (hJ2.2.1 t j q1 q2).trans (congrFun (hJ.1 106 (by decide)) _)) hJ2.2.2⟩, hT, hH, hA, hK⟩
theorem cSh_put {I : hI} {J J2 : hJ} {so : Nat → Int32} {si : Nat → Nat} {it : Nat → Nat → Int64} {s i : Nat} {u : Int64} (hS : cSh I J so si it) (hi : i < 40) (hj : J2 65 = vp_updL (J 65) (40 * s + i) u) : cSh I J2 so si (fun t j => if t = s ∧ j = i then u else it t j) := by
  intro t ht
  obtain ⟨b1, b2, b3, b4, b5⟩ := hS t ht
  refine ⟨b1, b2, b3, b4, fun j hj2 => ?_⟩
  rw [hj]
  show (if _ = _ then _ else _) = (if t = s ∧ j = i then u else it t j)
  by_cases e : t = s ∧ j = i
  · rw [if_pos (by rw [e.1, e.2]), if_pos e]
  · rw [if_neg (fun z => e (by omega)), if_neg e]; exact b5 j hj2
theorem rSh_put {I : hI} {J J2 : hJ} {so : Nat → Int32} {si : Nat → Nat} {it : Nat → Nat → Int64} {s i : Nat} {u : Int64} (hS : rSh I J so si it) (hi : i < 40) (hj : J2 106 = vp_updL (J 106) (40 * s + i) u) : rSh I J2 so si (fun t j => if t = s ∧ j = i then u else it t j) := by
  intro t ht
  obtain ⟨b1, b2, b3, b4, b5⟩ := hS t ht
  refine ⟨b1, b2, b3, b4, fun j hj2 => ?_⟩
  rw [hj]
  show (if _ = _ then _ else _) = (if t = s ∧ j = i then u else it t j)
  by_cases e : t = s ∧ j = i
  · rw [if_pos (by rw [e.1, e.2]), if_pos e]
  · rw [if_neg (fun z => e (by omega)), if_neg e]; exact b5 j hj2
theorem op_put {l : Launch} {dp : Nat} {I : hI} {J : hJ} {lt tx : Option Nat} {x : Int32} {y : Int32} {u : Int32} {Q : hQ} (hI : INV I J lt) (hQ : ∀ (rv : Int32) I1 J1 lt1 tx1, ret2 l mX12_put dp [.ref 82, .int x, .int y, .int u] (.int rv) I1 J1 lt1 tx1 → Q (some (.int rv)) hSH I1 J1 (hRR lt1 tx1)) : HC l mX11_put (dp + 20) 0 0 [.ref 0, .int x, .int y, .int u] hSH I J (hRR lt tx) Q := by
  obtain ⟨⟨ns, nl, np, ml, nk, nw, pl, fa, fb, sl, pp, pm, ki, fr, tg, wh, bw, rs, sn, fl, qw, hc, hr⟩, hW, ⟨so, si, it, hcS, hrS⟩, hT, hH, hA, hK⟩ := hI
  refine c_put hcS (fun nb => ?_) (fun s hx hs h11 => ?_) (fun s hx hs hn ni => ?_) (fun s i hx hy hs hi hn => ?_)
  · refine hQ _ _ _ _ _ (fun Q2 hQ2 => ?_)
    exact r_put hrS (fun _ => hQ2 _ _ _ _ ⟨⟨ns, nl, np, ml, nk, nw, pl, fa, fb, sl, pp, pm, ki, fr, tg, wh, bw, rs, sn, fl, qw, hc, hr⟩, hW, ⟨so, si, it, hcS, hrS⟩, hT, hH, hA, hK⟩) (fun s hx hs _ => absurd (rng_in hx (Nat.zero_le _) (show s ≤ 3 by omega) (by omega)) nb) (fun s hx hs _ _ => absurd (rng_in hx (Nat.zero_le _) (show s ≤ 3 by omega) (by omega)) nb) (fun s i hx hy hs hi hn => absurd (rng_in hx (Nat.zero_le _) (show s ≤ 3 by omega) (by omega)) nb)
  · refine hQ _ _ _ _ _ (fun Q2 hQ2 => ?_)
    refine r_put hrS (fun nb => absurd (rng_in hx (Nat.zero_le _) (show s ≤ 3 by omega) (by omega)) nb) (fun s2 hx2 hs2 _ => hQ2 _ _ _ _ ⟨⟨ns, nl, np, ml, nk, nw, pl, fa, fb, sl, pp, pm, ki, fr, tg, wh, bw, rs, sn, fl, qw, hc, hr⟩, hW, ⟨so, si, it, hcS, hrS⟩, hT, hH, hA, hK⟩) (fun s2 hx2 hs2 hn _ => ?_) (fun s2 i hx2 hy hs2 hi hn => ?_)
    · obtain rfl := nI_u hx hx2 (by omega) (by omega)
      exact absurd h11 hn
    · obtain rfl := nI_u hx hx2 (by omega) (by omega)
      exact absurd h11 hn
  · refine hQ _ _ _ _ _ (fun Q2 hQ2 => ?_)
    refine r_put hrS (fun nb => absurd (rng_in hx (Nat.zero_le _) (show s ≤ 3 by omega) (by omega)) nb) (fun s2 hx2 hs2 h11 => ?_) (fun s2 hx2 hs2 _ _ => hQ2 _ _ _ _ ⟨⟨ns, nl, np, ml, nk, nw, pl, fa, fb, sl, pp, pm, ki, fr, tg, wh, bw, rs, sn, fl, qw, hc, hr⟩, hW, ⟨so, si, it, hcS, hrS⟩, hT, hH, hA, hK⟩) (fun s2 i hx2 hy hs2 hi _ => ?_)
    · obtain rfl := nI_u hx hx2 (by omega) (by omega)
      exact absurd h11 hn
    · obtain rfl := nI_u hx hx2 (by omega) (by omega)
      exact absurd ⟨i, hi, hy⟩ ni
  · refine hQ _ _ _ _ _ (fun Q2 hQ2 => ?_)
    have k40 := (hcS s hs).2.2.1
    refine r_put (show rSh _ _ so si it from hrS) (fun nb => absurd (rng_in hx (Nat.zero_le _) (show s ≤ 3 by omega) (by omega)) nb) (fun s2 hx2 hs2 h11 => ?_) (fun s2 hx2 hs2 _ ni => ?_) (fun s2 i2 hx2 hy2 hs2 hi2 _ => ?_)
    · obtain rfl := nI_u hx hx2 (by omega) (by omega)
      exact absurd h11 hn
    · obtain rfl := nI_u hx hx2 (by omega) (by omega)
      exact absurd ⟨i, hi, hy⟩ ni
    · obtain rfl := nI_u hx hx2 (by omega) (by omega)
      obtain rfl := nI_u hy hy2 (by omega) (by omega)
      exact hQ2 _ _ _ _ ⟨⟨ns, nl, np, ml, nk, nw, pl, fa, fb, sl, pp, pm, ki, fr, tg, wh, bw, rs, sn, fl, qw, hc, hr⟩, hW, ⟨so, si, _, cSh_put (s := s2) (i := i2) hcS (by omega) rfl, rSh_put (s := s2) (i := i2) hrS (by omega) rfl⟩, hT, hH, hA, hK⟩
theorem op_item {l : Launch} {dp : Nat} {I : hI} {J : hJ} {lt tx : Option Nat} {x : Int32} {w : Int32} {y : Int32} {Q : hQ} (hI : INV I J lt) (hQ : ∀ (rv : Int32) I1 J1 lt1 tx1, ret2 l mX12_item dp [.ref 82, .int x, .int w, .int y] (.int rv) I1 J1 lt1 tx1 → Q (some (.int rv)) hSH I1 J1 (hRR lt1 tx1)) : HC l mX11_item (dp + 20) 0 0 [.ref 0, .int x, .int w, .int y] hSH I J (hRR lt tx) Q := by
  obtain ⟨⟨ns, nl, np, ml, nk, nw, pl, fa, fb, sl, pp, pm, ki, fr, tg, wh, bw, rs, sn, fl, qw, hc, hr⟩, hW, ⟨so, si, it, hcS, hrS⟩, hT, hH, hA, hK⟩ := hI
  refine c_item2 hcS (fun nb => ?_) (fun ok s hx hs h0 => ?_) (fun ok s hx hs h0 ni => ?_) (fun ok s i hx hy hs hi h0 => ?_)
  · refine hQ _ _ _ _ _ (fun Q2 hQ2 => ?_)
    exact r_item2 hrS (fun _ => hQ2 _ _ _ _ ⟨⟨ns, nl, np, ml, nk, nw, pl, fa, fb, sl, pp, pm, ki, fr, tg, wh, bw, rs, sn, fl, qw, hc, hr⟩, hW, ⟨so, si, it, hcS, hrS⟩, hT, hH, hA, hK⟩) (fun ok s hx hs _ => absurd ⟨rng_in hx (Nat.zero_le _) (show s ≤ 3 by omega) (by omega), ok⟩ nb) (fun ok s hx hs _ _ => absurd ⟨rng_in hx (Nat.zero_le _) (show s ≤ 3 by omega) (by omega), ok⟩ nb) (fun ok s i hx hy hs hi _ => absurd ⟨rng_in hx (Nat.zero_le _) (show s ≤ 3 by omega) (by omega), ok⟩ nb)
  · refine hQ _ _ _ _ _ (fun Q2 hQ2 => ?_)
    refine r_item2 hrS (fun nb => absurd ⟨rng_in hx (Nat.zero_le _) (show s ≤ 3 by omega) (by omega), ok⟩ nb) (fun _ s2 hx2 hs2 _ => ?_) (fun _ s2 hx2 hs2 hn _ => ?_) (fun _ s2 i hx2 hy hs2 hi hn => ?_)
    · obtain rfl := nI_u hx hx2 (by omega) (by omega)
      exact hQ2 _ _ _ _ ⟨⟨ns, nl, np, ml, nk, nw, pl, fa, fb, sl, pp, pm, ki, fr, tg, wh, bw, rs, sn, fl, qw, hc, hr⟩, hW, ⟨so, si, it, hcS, hrS⟩, hT, hH, hA, hK⟩
    · obtain rfl := nI_u hx hx2 (by omega) (by omega)
      exact absurd hn h0
    · obtain rfl := nI_u hx hx2 (by omega) (by omega)
      exact absurd hn h0
  · refine hQ _ _ _ _ _ (fun Q2 hQ2 => ?_)
    refine r_item2 hrS (fun nb => absurd ⟨rng_in hx (Nat.zero_le _) (show s ≤ 3 by omega) (by omega), ok⟩ nb) (fun _ s2 hx2 hs2 hn => ?_) (fun _ s2 hx2 hs2 _ _ => hQ2 _ _ _ _ ⟨⟨ns, nl, np, ml, nk, nw, pl, fa, fb, sl, pp, pm, ki, fr, tg, wh, bw, rs, sn, fl, qw, hc, hr⟩, hW, ⟨so, si, it, hcS, hrS⟩, hT, hH, hA, hK⟩) (fun _ s2 i hx2 hy hs2 hi hn => ?_)
    · obtain rfl := nI_u hx hx2 (by omega) (by omega)
      exact absurd h0 hn
    · obtain rfl := nI_u hx hx2 (by omega) (by omega)
      exact absurd ⟨i, hi, hy⟩ ni
  · refine hQ _ _ _ _ _ (fun Q2 hQ2 => ?_)
    have k40 := (hcS s hs).2.2.1
    refine r_item2 hrS (fun nb => absurd ⟨rng_in hx (Nat.zero_le _) (show s ≤ 3 by omega) (by omega), ok⟩ nb) (fun _ s2 hx2 hs2 hn => ?_) (fun _ s2 hx2 hs2 _ ni => ?_) (fun _ s2 i2 hx2 hy2 hs2 hi2 _ => ?_)
    · obtain rfl := nI_u hx hx2 (by omega) (by omega)
      exact absurd h0 hn
    · obtain rfl := nI_u hx hx2 (by omega) (by omega)
      exact absurd ⟨i, hi, hy⟩ ni
    · obtain rfl := nI_u hx hx2 (by omega) (by omega)
      obtain rfl := nI_u hy hy2 (by omega) (by omega)
      exact hQ2 _ _ _ _ ⟨⟨ns, nl, np, ml, nk, nw, pl, fa, fb, sl, pp, pm, ki, fr, tg, wh, bw, rs, sn, fl, qw, hc, hr⟩, hW, ⟨so, si, it, hcS, hrS⟩, hT, hH, hA, hK⟩
