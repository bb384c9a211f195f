theorem rng_in {x : Int32} {a b n : Nat} (hx : x = nI n) (h1 : a ≤ n) (h2 : n ≤ b) (hb : b < 2147483648) : nI a ≤ x ∧ x ≤ nI b := by
  subst hx
  exact ⟨(nI_leI (by omega) (by omega)).mpr h1, (nI_leI (by omega) (by omega)).mpr h2⟩
theorem nI_u {x : Int32} {a b : Nat} (ha : x = nI a) (hb : x = nI b) (h1 : a < 2147483648) (h2 : b < 2147483648) : b = a := ((nI_eq h1 h2).mp (ha.symm.trans hb)).symm
theorem r99b {r : Int32} (h1 : -99 ≤ r.toInt) (h2 : r.toInt ≤ 99) : -99 ≤ r ∧ r ≤ nI 99 := by
  refine ⟨Int32.le_iff_toInt_le.mpr ?_, Int32.le_iff_toInt_le.mpr ?_⟩
  · show (-99 : Int) ≤ _; exact h1
  · rw [nI_toInt (by omega)]; exact h2
/-- called now, the reference answers v and the invariant stands -/
def ret2 (l : Launch) (M : hM) (dp : Nat) (As : List Value) (v : Value) (I1 : hI) (J1 : hJ) (lt1 tx1 : Option Nat) : Prop := ∀ Q2 : hQ, (∀ I2 J2 lt2 tx2, INV I2 J2 lt2 → Q2 (some v) hSH I2 J2 (hRR lt2 tx2)) → HC l M (dp + 20) 0 0 As hSH I1 J1 (hRR lt1 tx1) Q2
theorem op_station {l : Launch} {dp : Nat} {I : hI} {J : hJ} {lt tx : Option Nat} {x : Int32} {Q : hQ} (hI : INV I J lt) (hQ : ∀ (rv : Int32) I1 J1 lt1 tx1, ret2 l mX12_station dp [.ref 82, .int x] (.int rv) I1 J1 lt1 tx1 → Q (some (.int rv)) hSH I1 J1 (hRR lt1 tx1)) : HC l mX11_station (dp + 20) 0 0 [.ref 0, .int x] hSH I J (hRR lt tx) Q := by
  obtain ⟨⟨ns, nl, np, ml, nk, nw, pl, fa, fb, sl, pp, pm, ki, fr, tg, wh, bw, rs, sn, fl, qw, hc, hr⟩, hW, hS, hT, hH, hA, hK⟩ := hI
  obtain ⟨hcNF, hw, hcV, hvw, hcL⟩ := id hc
  obtain ⟨hrN, -, hrV, -, hrL⟩ := id hr
  obtain ⟨k6, k12, kW, k99, kr⟩ := id hw
  obtain ⟨k8, k2, k24, kP, kS⟩ := id hvw
  refine c_station2 hcNF.1 hw (fun nb => ?_) (fun ok h6 => ?_) (fun pv hx hpv hn g1 g2 g3 e1 e2 e3 => ?_)
  · refine hQ _ _ _ _ _ (fun Q2 hQ2 => ?_)
    exact r_station2 hrN hw (fun _ => hQ2 _ _ _ _ ⟨⟨ns, nl, np, ml, nk, nw, pl, fa, fb, sl, pp, pm, ki, fr, tg, wh, bw, rs, sn, fl, qw, hc, hr⟩, hW, hS, hT, hH, hA, hK⟩) (fun ok _ => absurd ok nb) (fun pv hx hpv _ => absurd (rng_in hx (Nat.zero_le _) hpv (by omega)) nb)
  · refine hQ _ _ _ _ _ (fun Q2 hQ2 => ?_)
    exact r_station2 hrN hw (fun nb => absurd ok nb) (fun _ _ => hQ2 _ _ _ _ ⟨⟨ns, nl, np, ml, nk, nw, pl, fa, fb, sl, pp, pm, ki, fr, tg, wh, bw, rs, sn, fl, qw, hc, hr⟩, hW, hS, hT, hH, hA, hK⟩) (fun pv hx hpv hn => absurd hn (by omega))
  · refine hQ _ _ _ _ _ (fun Q2 hQ2 => ?_)
    refine r_station2 (show rN _ ns nl pl fa fb sl rs from hrN) hw (fun nb => absurd (rng_in hx (Nat.zero_le _) hpv (by omega)) nb) (fun _ h6 => absurd h6 (by omega)) (fun pv2 hx2 hpv2 _ => ?_)
    obtain rfl := nI_u hx hx2 (by omega) (by omega)
    have hc2 := cG_station hc hn hpv e1 e2 e3
    have hr2 := rG_station hr hn hpv
    exact hQ2 _ _ _ _ ⟨⟨ns + 1, nl, np, ml, nk, nw, upn pl ns _, fa, fb, sl, pp, pm, ki, fr, tg, wh, bw, rs, sn, fl, qw, hc2, hr2⟩, hW, hS, hT, hH, hA, hK⟩
theorem leg_ok {ns a b w : Nat} {x y r wv : Int32} (h6 : ns ≤ 6) (hx : x = nI a) (hy : y = nI b) (hwv : wv = nI w) (ha : a < ns) (hb : b < ns) (hab : a ≠ b) (h1 : 1 ≤ w) (h9 : w ≤ 9) (hr1 : -99 ≤ r.toInt) (hr2 : r.toInt ≤ 99) : legOk ns x y r wv := ⟨⟨a, ha, hx⟩, ⟨b, hb, hy⟩, fun z => hab ((nI_eq (by omega) (by omega)).mp (hx.symm.trans (z.trans hy))), r99b hr1 hr2, rng_in hwv h1 h9 (by omega)⟩
theorem op_leg {l : Launch} {dp : Nat} {I : hI} {J : hJ} {lt tx : Option Nat} {x : Int32} {y : Int32} {r : Int32} {wv : Int32} {Q : hQ} (hI : INV I J lt) (hQ : ∀ (rv : Int32) I1 J1 lt1 tx1, ret2 l mX12_leg dp [.ref 82, .int x, .int y, .int r, .int wv] (.int rv) I1 J1 lt1 tx1 → Q (some (.int rv)) hSH I1 J1 (hRR lt1 tx1)) : HC l mX11_leg (dp + 20) 0 0 [.ref 0, .int x, .int y, .int r, .int wv] hSH I J (hRR lt tx) Q := by
  obtain ⟨⟨ns, nl, np, ml, nk, nw, pl, fa, fb, sl, pp, pm, ki, fr, tg, wh, bw, rs, sn, fl, qw, hc, hr⟩, hW, hS, hT, hH, hA, hK⟩ := hI
  obtain ⟨hcNF, hw, hcV, hvw, hcL⟩ := id hc
  obtain ⟨hrN, -, hrV, -, hrL⟩ := id hr
  obtain ⟨k6, k12, kW, k99, kr⟩ := id hw
  obtain ⟨k8, k2, k24, kP, kS⟩ := id hvw
  refine c_leg2 hcNF.1 hw (fun nb => ?_) (fun ok h12 => ?_) (fun a b w hx hy hwv ha hb hab h1 h9 hr1 hr2 hn g1 g2 g3 e1 e2 e3 => ?_)
  · refine hQ _ _ _ _ _ (fun Q2 hQ2 => ?_)
    exact r_leg2 hrN hw (fun _ => hQ2 _ _ _ _ ⟨⟨ns, nl, np, ml, nk, nw, pl, fa, fb, sl, pp, pm, ki, fr, tg, wh, bw, rs, sn, fl, qw, hc, hr⟩, hW, hS, hT, hH, hA, hK⟩) (fun ok _ => absurd ok nb) (fun a b w hx hy hwv ha hb hab h1 h9 hr1 hr2 hn => absurd (leg_ok k6 hx hy hwv ha hb hab h1 h9 hr1 hr2) nb)
  · refine hQ _ _ _ _ _ (fun Q2 hQ2 => ?_)
    exact r_leg2 hrN hw (fun nb => absurd ok nb) (fun _ _ => hQ2 _ _ _ _ ⟨⟨ns, nl, np, ml, nk, nw, pl, fa, fb, sl, pp, pm, ki, fr, tg, wh, bw, rs, sn, fl, qw, hc, hr⟩, hW, hS, hT, hH, hA, hK⟩) (fun a b w hx hy hwv ha hb hab h1 h9 hr1 hr2 hn => absurd hn (by omega))
  · refine hQ _ _ _ _ _ (fun Q2 hQ2 => ?_)
    refine r_leg2 (show rN _ ns nl pl fa fb sl rs from hrN) hw (fun nb => absurd (leg_ok k6 hx hy hwv ha hb hab h1 h9 hr1 hr2) nb) (fun _ h12 => absurd h12 (by omega)) (fun a2 b2 w2 hx2 hy2 hw2 _ _ _ _ _ _ _ _ => ?_)
    obtain rfl := nI_u hx hx2 (by omega) (by omega)
    obtain rfl := nI_u hy hy2 (by omega) (by omega)
    obtain rfl := nI_u hwv hw2 (by omega) (by omega)
    have hWn := netW_lg hw hn ha hb hab h1 h9 hr1 hr2
    have hc2 := cG_leg hc hWn e1 e2 e3
    have hr2 := rG_leg hr hWn
    exact hQ2 _ _ _ _ ⟨⟨ns, nl + 1, np, ml, nk, nw, pl, _, _, _, pp, pm, ki, fr, tg, wh, bw, _, sn, fl, qw, hc2, hr2⟩, hW, hS, hT, hH, hA, hK⟩
theorem op_mend {l : Launch} {dp : Nat} {I : hI} {J : hJ} {lt tx : Option Nat} {x : Int32} {wt : Int32} {n : Int32} {Q : hQ} (hI : INV I J lt) (hQ : ∀ (rv : Int32) I1 J1 lt1 tx1, ret2 l mX12_mend dp [.ref 82, .int x, .int wt, .int n] (.int rv) I1 J1 lt1 tx1 → Q (some (.int rv)) hSH I1 J1 (hRR lt1 tx1)) : HC l mX11_mend (dp + 20) 0 0 [.ref 0, .int x, .int wt, .int n] hSH I J (hRR lt tx) Q := by
  obtain ⟨⟨ns, nl, np, ml, nk, nw, pl, fa, fb, sl, pp, pm, ki, fr, tg, wh, bw, rs, sn, fl, qw, hc, hr⟩, hW, hS, hT, hH, hA, hK⟩ := hI
  obtain ⟨hcNF, hw, hcV, hvw, hcL⟩ := id hc
  obtain ⟨hrN, -, hrV, -, hrL⟩ := id hr
  obtain ⟨k6, k12, kW, k99, kr⟩ := id hw
  obtain ⟨k8, k2, k24, kP, kS⟩ := id hvw
  refine c_mend hcNF.1 hw (fun nb => ?_) (fun k hk hx h0 hn g1 g2 g3 e1 e2 e3 => ?_) (fun k w hk hx h1 hn hw1 hw9 g1 g2 g3 e1 e2 e3 => ?_)
  · refine hQ _ _ _ _ _ (fun Q2 hQ2 => ?_)
    exact r_mend hrN hw (fun _ => hQ2 _ _ _ _ ⟨⟨ns, nl, np, ml, nk, nw, pl, fa, fb, sl, pp, pm, ki, fr, tg, wh, bw, rs, sn, fl, qw, hc, hr⟩, hW, hS, hT, hH, hA, hK⟩) (fun k hk hx h0 hn => absurd ⟨⟨k, hk, hx⟩, .inl ⟨h0, r99b hn.1 hn.2⟩⟩ nb) (fun k w hk hx h1 hn hw1 hw9 => absurd ⟨⟨k, hk, hx⟩, .inr ⟨h1, rng_in hn hw1 hw9 (by omega)⟩⟩ nb)
  · refine hQ _ _ _ _ _ (fun Q2 hQ2 => ?_)
    refine r_mend (show rN _ ns nl pl fa fb sl rs from hrN) hw (fun nb => absurd ⟨⟨k, hk, hx⟩, .inl ⟨h0, r99b hn.1 hn.2⟩⟩ nb) (fun k2 hk2 hx2 _ _ => ?_) (fun k2 w2 _ _ h1 _ _ _ => absurd (h0.symm.trans h1) (by decide))
    obtain rfl := nI_u hx hx2 (by omega) (by omega)
    have hWn := netW_mr (k := k2) hw hn.1 hn.2
    have hc2 := cG_mr hc hWn e1 e2 e3
    have hr2 := rG_mr hr hWn
    exact hQ2 _ _ _ _ ⟨⟨ns, nl, np, ml, nk, nw, pl, fa, fb, sl, pp, pm, ki, fr, tg, wh, bw, _, sn, fl, qw, hc2, hr2⟩, hW, hS, hT, hH, hA, hK⟩
  · refine hQ _ _ _ _ _ (fun Q2 hQ2 => ?_)
    refine r_mend (show rN _ ns nl pl fa fb sl rs from hrN) hw (fun nb => absurd ⟨⟨k, hk, hx⟩, .inr ⟨h1, rng_in hn hw1 hw9 (by omega)⟩⟩ nb) (fun k2 _ _ h0 _ => absurd (h0.symm.trans h1) (by decide)) (fun k2 w2 hk2 hx2 _ hn2 _ _ => ?_)
    obtain rfl := nI_u hx hx2 (by omega) (by omega)
    obtain rfl := nI_u hn hn2 (by omega) (by omega)
    have hWn := netW_ms (k := k2) hw hw1 hw9
    have hc2 := cG_ms hc hWn e1 e2 e3
    have hr2 := rG_ms hr hWn
    exact hQ2 _ _ _ _ ⟨⟨ns, nl, np, ml, nk, nw, pl, fa, fb, _, pp, pm, ki, fr, tg, wh, bw, rs, sn, fl, qw, hc2, hr2⟩, hW, hS, hT, hH, hA, hK⟩
theorem op_stationOf {l : Launch} {dp : Nat} {I : hI} {J : hJ} {lt tx : Option Nat} {x : Int32} {w : Int32} {Q : hQ} (hI : INV I J lt) (hQ : ∀ (rv : Int32) I1 J1 lt1 tx1, ret2 l mX12_stationOf dp [.ref 82, .int x, .int w] (.int rv) I1 J1 lt1 tx1 → Q (some (.int rv)) hSH I1 J1 (hRR lt1 tx1)) : HC l mX11_stationOf (dp + 20) 0 0 [.ref 0, .int x, .int w] hSH I J (hRR lt tx) Q := by
  obtain ⟨⟨ns, nl, np, ml, nk, nw, pl, fa, fb, sl, pp, pm, ki, fr, tg, wh, bw, rs, sn, fl, qw, hc, hr⟩, hW, hS, hT, hH, hA, hK⟩ := hI
  obtain ⟨hcNF, hw, hcV, hvw, hcL⟩ := id hc
  obtain ⟨hrN, -, hrV, -, hrL⟩ := id hr
  obtain ⟨k6, k12, kW, k99, kr⟩ := id hw
  obtain ⟨k8, k2, k24, kP, kS⟩ := id hvw
  refine c_stationOf hc ?_
  refine hQ _ _ _ _ _ (fun Q2 hQ2 => ?_)
  refine r_stationOf (show rG _ ns nl np ml nk nw pl fa fb sl pp pm ki fr tg wh bw rs sn fl qw from hr) (fun I2 hO2 => ?_)
  obtain ⟨a1, a2, a3, a4, a5, a6, a7, rfl⟩ := hO2
  exact hQ2 _ _ _ _ ⟨⟨ns, nl, np, ml, nk, nw, pl, fa, fb, sl, pp, pm, ki, fr, tg, wh, bw, rs, sn, fl, qw, hc, hr⟩, hW, hS, hT, hH, hA, hK⟩
theorem op_sightOf {l : Launch} {dp : Nat} {I : hI} {J : hJ} {lt tx : Option Nat} {x : Int32} {w : Int32} {Q : hQ} (hI : INV I J lt) (hQ : ∀ (rv : Int32) I1 J1 lt1 tx1, ret2 l mX12_sightOf dp [.ref 82, .int x, .int w] (.int rv) I1 J1 lt1 tx1 → Q (some (.int rv)) hSH I1 J1 (hRR lt1 tx1)) : HC l mX11_sightOf (dp + 20) 0 0 [.ref 0, .int x, .int w] hSH I J (hRR lt tx) Q := by
  obtain ⟨⟨ns, nl, np, ml, nk, nw, pl, fa, fb, sl, pp, pm, ki, fr, tg, wh, bw, rs, sn, fl, qw, hc, hr⟩, hW, hS, hT, hH, hA, hK⟩ := hI
  obtain ⟨hcNF, hw, hcV, hvw, hcL⟩ := id hc
  obtain ⟨hrN, -, hrV, -, hrL⟩ := id hr
  obtain ⟨k6, k12, kW, k99, kr⟩ := id hw
  obtain ⟨k8, k2, k24, kP, kS⟩ := id hvw
  refine c_sightOf hc ?_
  refine hQ _ _ _ _ _ (fun Q2 hQ2 => ?_)
  refine r_sightOf (show rG _ ns nl np ml nk nw pl fa fb sl pp pm ki fr tg wh bw rs sn fl qw from hr) (fun I2 hO2 => ?_)
  obtain ⟨a1, a2, a3, a4, a5, a6, a7, rfl⟩ := hO2
  exact hQ2 _ _ _ _ ⟨⟨ns, nl, np, ml, nk, nw, pl, fa, fb, sl, pp, pm, ki, fr, tg, wh, bw, rs, sn, fl, qw, hc, hr⟩, hW, hS, hT, hH, hA, hK⟩
theorem op_foot {l : Launch} {dp : Nat} {I : hI} {J : hJ} {lt tx : Option Nat} {x : Int32} {w : Int32} {Q : hQ} (hI : INV I J lt) (hQ : ∀ (rv : Int32) I1 J1 lt1 tx1, ret2 l mX12_foot dp [.ref 82, .int x, .int w] (.int rv) I1 J1 lt1 tx1 → Q (some (.int rv)) hSH I1 J1 (hRR lt1 tx1)) : HC l mX11_foot (dp + 20) 0 0 [.ref 0, .int x, .int w] hSH I J (hRR lt tx) Q := by
  obtain ⟨⟨ns, nl, np, ml, nk, nw, pl, fa, fb, sl, pp, pm, ki, fr, tg, wh, bw, rs, sn, fl, qw, hc, hr⟩, hW, hS, hT, hH, hA, hK⟩ := hI
  obtain ⟨hcNF, hw, hcV, hvw, hcL⟩ := id hc
  obtain ⟨hrN, -, hrV, -, hrL⟩ := id hr
  obtain ⟨k6, k12, kW, k99, kr⟩ := id hw
  obtain ⟨k8, k2, k24, kP, kS⟩ := id hvw
  refine c_foot hc ?_
  refine hQ _ _ _ _ _ (fun Q2 hQ2 => ?_)
  refine r_foot (show rG _ ns nl np ml nk nw pl fa fb sl pp pm ki fr tg wh bw rs sn fl qw from hr) (fun I2 hO2 => ?_)
  obtain ⟨a1, a2, a3, a4, a5, a6, a7, rfl⟩ := hO2
  exact hQ2 _ _ _ _ ⟨⟨ns, nl, np, ml, nk, nw, pl, fa, fb, sl, pp, pm, ki, fr, tg, wh, bw, rs, sn, fl, qw, hc, hr⟩, hW, hS, hT, hH, hA, hK⟩
theorem op_span {l : Launch} {dp : Nat} {I : hI} {J : hJ} {lt tx : Option Nat} {x : Int32} {w : Int32} {Q : hQ} (hI : INV I J lt) (hQ : ∀ (rv : Int32) I1 J1 lt1 tx1, ret2 l mX12_span dp [.ref 82, .int x, .int w] (.int rv) I1 J1 lt1 tx1 → Q (some (.int rv)) hSH I1 J1 (hRR lt1 tx1)) : HC l mX11_span (dp + 20) 0 0 [.ref 0, .int x, .int w] hSH I J (hRR lt tx) Q := by
  obtain ⟨⟨ns, nl, np, ml, nk, nw, pl, fa, fb, sl, pp, pm, ki, fr, tg, wh, bw, rs, sn, fl, qw, hc, hr⟩, hW, hS, hT, hH, hA, hK⟩ := hI
  obtain ⟨hcNF, hw, hcV, hvw, hcL⟩ := id hc
  obtain ⟨hrN, -, hrV, -, hrL⟩ := id hr
  obtain ⟨k6, k12, kW, k99, kr⟩ := id hw
  obtain ⟨k8, k2, k24, kP, kS⟩ := id hvw
  refine c_span hc (fun I1 hC1 => ?_)
  obtain ⟨y1, y2, y3, y4, rfl⟩ := hC1
  refine hQ _ _ _ _ _ (fun Q2 hQ2 => ?_)
  refine r_span (show rG _ ns nl np ml nk nw pl fa fb sl pp pm ki fr tg wh bw rs sn fl qw from hr) (fun I2 hO2 => ?_)
  obtain ⟨a1, a2, a3, a4, a5, a6, a7, rfl⟩ := hO2
  exact hQ2 _ _ _ _ ⟨⟨ns, nl, np, ml, nk, nw, pl, fa, fb, sl, pp, pm, ki, fr, tg, wh, bw, rs, sn, fl, qw, hc, hr⟩, hW, hS, hT, hH, hA, hK⟩
theorem op_hangs {l : Launch} {dp : Nat} {I : hI} {J : hJ} {lt tx : Option Nat} {x : Int32} {Q : hQ} (hI : INV I J lt) (hQ : ∀ (rv : Int32) I1 J1 lt1 tx1, ret2 l mX12_hangs dp [.ref 82, .int x] (.int rv) I1 J1 lt1 tx1 → Q (some (.int rv)) hSH I1 J1 (hRR lt1 tx1)) : HC l mX11_hangs (dp + 20) 0 0 [.ref 0, .int x] hSH I J (hRR lt tx) Q := by
  obtain ⟨⟨ns, nl, np, ml, nk, nw, pl, fa, fb, sl, pp, pm, ki, fr, tg, wh, bw, rs, sn, fl, qw, hc, hr⟩, hW, hS, hT, hH, hA, hK⟩ := hI
  obtain ⟨hcNF, hw, hcV, hvw, hcL⟩ := id hc
  obtain ⟨hrN, -, hrV, -, hrL⟩ := id hr
  obtain ⟨k6, k12, kW, k99, kr⟩ := id hw
  obtain ⟨k8, k2, k24, kP, kS⟩ := id hvw
  refine c_hangs hc (fun I1 hC1 => ?_)
  obtain ⟨y1, y2, y3, y4, rfl⟩ := hC1
  refine hQ _ _ _ _ _ (fun Q2 hQ2 => ?_)
  refine r_hangs (show rG _ ns nl np ml nk nw pl fa fb sl pp pm ki fr tg wh bw rs sn fl qw from hr) (fun I2 hO2 => ?_)
  obtain ⟨a1, a2, a3, a4, a5, a6, a7, rfl⟩ := hO2
  exact hQ2 _ _ _ _ ⟨⟨ns, nl, np, ml, nk, nw, pl, fa, fb, sl, pp, pm, ki, fr, tg, wh, bw, rs, sn, fl, qw, hc, hr⟩, hW, hS, hT, hH, hA, hK⟩
theorem op_said {l : Launch} {dp : Nat} {I : hI} {J : hJ} {lt tx : Option Nat} {x : Int32} {Q : hQ} (hI : INV I J lt) (hQ : ∀ (rv : Int32) I1 J1 lt1 tx1, ret2 l mX12_said dp [.ref 82, .int x] (.int rv) I1 J1 lt1 tx1 → Q (some (.int rv)) hSH I1 J1 (hRR lt1 tx1)) : HC l mX11_said (dp + 20) 0 0 [.ref 0, .int x] hSH I J (hRR lt tx) Q := by
  obtain ⟨⟨ns, nl, np, ml, nk, nw, pl, fa, fb, sl, pp, pm, ki, fr, tg, wh, bw, rs, sn, fl, qw, hc, hr⟩, hW, hS, hT, hH, hA, hK⟩ := hI
  obtain ⟨hcNF, hw, hcV, hvw, hcL⟩ := id hc
  obtain ⟨hrN, -, hrV, -, hrL⟩ := id hr
  obtain ⟨k6, k12, kW, k99, kr⟩ := id hw
  obtain ⟨k8, k2, k24, kP, kS⟩ := id hvw
  refine c_said hc (fun I1 hC1 => ?_)
  obtain ⟨y1, y2, y3, y4, rfl⟩ := hC1
  refine hQ _ _ _ _ _ (fun Q2 hQ2 => ?_)
  refine r_said (show rG _ ns nl np ml nk nw pl fa fb sl pp pm ki fr tg wh bw rs sn fl qw from hr) (fun I2 hO2 => ?_)
  obtain ⟨a1, a2, a3, a4, a5, a6, a7, rfl⟩ := hO2
  exact hQ2 _ _ _ _ ⟨⟨ns, nl, np, ml, nk, nw, pl, fa, fb, sl, pp, pm, ki, fr, tg, wh, bw, rs, sn, fl, qw, hc, hr⟩, hW, hS, hT, hH, hA, hK⟩
theorem op_believed {l : Launch} {dp : Nat} {I : hI} {J : hJ} {lt tx : Option Nat} {x : Int32} {w : Int32} {Q : hQ} (hI : INV I J lt) (hQ : ∀ (rv : Int32) I1 J1 lt1 tx1, ret2 l mX12_believed dp [.ref 82, .int x, .int w] (.int rv) I1 J1 lt1 tx1 → Q (some (.int rv)) hSH I1 J1 (hRR lt1 tx1)) : HC l mX11_believed (dp + 20) 0 0 [.ref 0, .int x, .int w] hSH I J (hRR lt tx) Q := by
  obtain ⟨⟨ns, nl, np, ml, nk, nw, pl, fa, fb, sl, pp, pm, ki, fr, tg, wh, bw, rs, sn, fl, qw, hc, hr⟩, hW, hS, hT, hH, hA, hK⟩ := hI
  obtain ⟨hcNF, hw, hcV, hvw, hcL⟩ := id hc
  obtain ⟨hrN, -, hrV, -, hrL⟩ := id hr
  obtain ⟨k6, k12, kW, k99, kr⟩ := id hw
  obtain ⟨k8, k2, k24, kP, kS⟩ := id hvw
  refine c_believed hc (fun I1 hC1 => ?_)
  obtain ⟨y1, y2, y3, y4, rfl⟩ := hC1
  refine hQ _ _ _ _ _ (fun Q2 hQ2 => ?_)
  refine r_believed (show rG _ ns nl np ml nk nw pl fa fb sl pp pm ki fr tg wh bw rs sn fl qw from hr) (fun I2 hO2 => ?_)
  obtain ⟨a1, a2, a3, a4, a5, a6, a7, rfl⟩ := hO2
  exact hQ2 _ _ _ _ ⟨⟨ns, nl, np, ml, nk, nw, pl, fa, fb, sl, pp, pm, ki, fr, tg, wh, bw, rs, sn, fl, qw, hc, hr⟩, hW, hS, hT, hH, hA, hK⟩
theorem op_again {l : Launch} {dp : Nat} {I : hI} {J : hJ} {lt tx : Option Nat}  {Q : hQ} (hI : INV I J lt) (hQ : ∀ (rv : Int32) I1 J1 lt1 tx1, ret2 l mX12_again dp [.ref 82] (.int rv) I1 J1 lt1 tx1 → Q (some (.int rv)) hSH I1 J1 (hRR lt1 tx1)) : HC l mX11_again (dp + 20) 0 0 [.ref 0] hSH I J (hRR lt tx) Q := by
  obtain ⟨⟨ns, nl, np, ml, nk, nw, pl, fa, fb, sl, pp, pm, ki, fr, tg, wh, bw, rs, sn, fl, qw, hc, hr⟩, hW, hS, hT, hH, hA, hK⟩ := hI
  obtain ⟨hcNF, hw, hcV, hvw, hcL⟩ := id hc
  obtain ⟨hrN, -, hrV, -, hrL⟩ := id hr
  obtain ⟨k6, k12, kW, k99, kr⟩ := id hw
  obtain ⟨k8, k2, k24, kP, kS⟩ := id hvw
  refine c_again hcNF.1 hw (fun g => ?_)
  refine hQ _ _ _ _ _ (fun Q2 hQ2 => ?_)
  refine r_again (show rN _ ns nl pl fa fb sl rs from hrN) hw (fun g2 => ?_)
  exact hQ2 _ _ _ _ ⟨⟨ns, nl, np, ml, nk, nw, pl, fa, fb, sl, pp, pm, ki, fr, tg, wh, bw, rs, sn, fl, qw, hc, hr⟩, hW, hS, hT, hH, hA, hK⟩
theorem op_point {l : Launch} {dp : Nat} {I : hI} {J : hJ} {lt tx : Option Nat} {x : Int32} {y : Int32} {Q : hQ} (hI : INV I J lt) (hQ : ∀ (rv : Int32) I1 J1 lt1 tx1, ret2 l mX12_point dp [.ref 82, .int x, .int y] (.int rv) I1 J1 lt1 tx1 → Q (some (.int rv)) hSH I1 J1 (hRR lt1 tx1)) : HC l mX11_point (dp + 20) 0 0 [.ref 0, .int x, .int y] hSH I J (hRR lt tx) Q := by
  obtain ⟨⟨ns, nl, np, ml, nk, nw, pl, fa, fb, sl, pp, pm, ki, fr, tg, wh, bw, rs, sn, fl, qw, hc, hr⟩, hW, hS, hT, hH, hA, hK⟩ := hI
  obtain ⟨hcNF, hw, hcV, hvw, hcL⟩ := id hc
  obtain ⟨hrN, -, hrV, -, hrL⟩ := id hr
  obtain ⟨k6, k12, kW, k99, kr⟩ := id hw
  obtain ⟨k8, k2, k24, kP, kS⟩ := id hvw
  refine c_point2 hc (fun nb => ?_) (fun ok h8 => ?_) (fun a m hx hy ha hm hn => ?_)
  · refine hQ _ _ _ _ _ (fun Q2 hQ2 => ?_)
    exact r_point2 hr (fun _ => hQ2 _ _ _ _ ⟨⟨ns, nl, np, ml, nk, nw, pl, fa, fb, sl, pp, pm, ki, fr, tg, wh, bw, rs, sn, fl, qw, hc, hr⟩, hW, hS, hT, hH, hA, hK⟩) (fun ok _ => absurd ok nb) (fun a m hx hy ha hm _ => absurd ⟨rng_in hx (Nat.zero_le _) ha (by omega), rng_in hy (Nat.zero_le _) hm (by omega)⟩ nb)
  · refine hQ _ _ _ _ _ (fun Q2 hQ2 => ?_)
    exact r_point2 hr (fun nb => absurd ok nb) (fun _ _ => hQ2 _ _ _ _ ⟨⟨ns, nl, np, ml, nk, nw, pl, fa, fb, sl, pp, pm, ki, fr, tg, wh, bw, rs, sn, fl, qw, hc, hr⟩, hW, hS, hT, hH, hA, hK⟩) (fun a m hx hy ha hm hn => absurd hn (by omega))
  · refine hQ _ _ _ _ _ (fun Q2 hQ2 => ?_)
    refine r_point2 (show rG _ ns nl np ml nk nw pl fa fb sl pp pm ki fr tg wh bw rs sn fl qw from hr) (fun nb => absurd ⟨rng_in hx (Nat.zero_le _) ha (by omega), rng_in hy (Nat.zero_le _) hm (by omega)⟩ nb) (fun _ h8 => absurd h8 (by omega)) (fun a2 m2 hx2 hy2 ha2 hm2 _ => ?_)
    obtain rfl := nI_u hx hx2 (by omega) (by omega)
    obtain rfl := nI_u hy hy2 (by omega) (by omega)
    have hc2 := cG_point hc hn ha hm
    have hr2 := rG_point hr hn ha hm
    exact hQ2 _ _ _ _ ⟨⟨ns, nl, np + 1, ml, nk, nw, pl, fa, fb, sl, _, _, ki, fr, tg, wh, bw, rs, sn, fl, qw, hc2, hr2⟩, hW, hS, hT, hH, hA, hK⟩
theorem op_mass {l : Launch} {dp : Nat} {I : hI} {J : hJ} {lt tx : Option Nat} {x : Int32} {y : Int32} {Q : hQ} (hI : INV I J lt) (hQ : ∀ (rv : Int32) I1 J1 lt1 tx1, ret2 l mX12_mass dp [.ref 82, .int x, .int y] (.int rv) I1 J1 lt1 tx1 → Q (some (.int rv)) hSH I1 J1 (hRR lt1 tx1)) : HC l mX11_mass (dp + 20) 0 0 [.ref 0, .int x, .int y] hSH I J (hRR lt tx) Q := by
  obtain ⟨⟨ns, nl, np, ml, nk, nw, pl, fa, fb, sl, pp, pm, ki, fr, tg, wh, bw, rs, sn, fl, qw, hc, hr⟩, hW, hS, hT, hH, hA, hK⟩ := hI
  obtain ⟨hcNF, hw, hcV, hvw, hcL⟩ := id hc
  obtain ⟨hrN, -, hrV, -, hrL⟩ := id hr
  obtain ⟨k6, k12, kW, k99, kr⟩ := id hw
  obtain ⟨k8, k2, k24, kP, kS⟩ := id hvw
  refine c_mass hc (fun nb => ?_) (fun p m hx hy hp hm => ?_)
  · refine hQ _ _ _ _ _ (fun Q2 hQ2 => ?_)
    exact r_mass hr (fun _ => hQ2 _ _ _ _ ⟨⟨ns, nl, np, ml, nk, nw, pl, fa, fb, sl, pp, pm, ki, fr, tg, wh, bw, rs, sn, fl, qw, hc, hr⟩, hW, hS, hT, hH, hA, hK⟩) (fun p m hx hy hp hm => absurd ⟨⟨p, hp, hx⟩, rng_in hy (Nat.zero_le _) hm (by omega)⟩ nb)
  · refine hQ _ _ _ _ _ (fun Q2 hQ2 => ?_)
    refine r_mass (show rG _ ns nl np ml nk nw pl fa fb sl pp pm ki fr tg wh bw rs sn fl qw from hr) (fun nb => absurd ⟨⟨p, hp, hx⟩, rng_in hy (Nat.zero_le _) hm (by omega)⟩ nb) (fun p2 m2 hx2 hy2 hp2 hm2 => ?_)
    obtain rfl := nI_u hx hx2 (by omega) (by omega)
    obtain rfl := nI_u hy hy2 (by omega) (by omega)
    have hc2 := cG_mass (p := p2) hc hm
    have hr2 := rG_mass (p := p2) hr hm
    exact hQ2 _ _ _ _ ⟨⟨ns, nl, np, ml, nk, nw, pl, fa, fb, sl, pp, _, ki, fr, tg, wh, bw, rs, sn, fl, qw, hc2, hr2⟩, hW, hS, hT, hH, hA, hK⟩
theorem op_masses {l : Launch} {dp : Nat} {I : hI} {J : hJ} {lt tx : Option Nat} {x : Int32} {Q : hQ} (hI : INV I J lt) (hQ : ∀ (rv : Int32) I1 J1 lt1 tx1, ret2 l mX12_masses dp [.ref 82, .int x] (.int rv) I1 J1 lt1 tx1 → Q (some (.int rv)) hSH I1 J1 (hRR lt1 tx1)) : HC l mX11_masses (dp + 20) 0 0 [.ref 0, .int x] hSH I J (hRR lt tx) Q := by
  obtain ⟨⟨ns, nl, np, ml, nk, nw, pl, fa, fb, sl, pp, pm, ki, fr, tg, wh, bw, rs, sn, fl, qw, hc, hr⟩, hW, hS, hT, hH, hA, hK⟩ := hI
  obtain ⟨hcNF, hw, hcV, hvw, hcL⟩ := id hc
  obtain ⟨hrN, -, hrV, -, hrL⟩ := id hr
  obtain ⟨k6, k12, kW, k99, kr⟩ := id hw
  obtain ⟨k8, k2, k24, kP, kS⟩ := id hvw
  refine c_masses hc (fun nb => ?_) (fun m hx hm => ?_)
  · refine hQ _ _ _ _ _ (fun Q2 hQ2 => ?_)
    exact r_masses hr (fun _ => hQ2 _ _ _ _ ⟨⟨ns, nl, np, ml, nk, nw, pl, fa, fb, sl, pp, pm, ki, fr, tg, wh, bw, rs, sn, fl, qw, hc, hr⟩, hW, hS, hT, hH, hA, hK⟩) (fun m hx hm => absurd (rng_in hx (Nat.zero_le _) hm (by omega)) nb)
  · refine hQ _ _ _ _ _ (fun Q2 hQ2 => ?_)
    refine r_masses (show rG _ ns nl np ml nk nw pl fa fb sl pp pm ki fr tg wh bw rs sn fl qw from hr) (fun nb => absurd (rng_in hx (Nat.zero_le _) hm (by omega)) nb) (fun m2 hx2 hm2 => ?_)
    obtain rfl := nI_u hx hx2 (by omega) (by omega)
    have hc2 := cG_masses hc hm
    have hr2 := rG_masses hr hm
    exact hQ2 _ _ _ _ ⟨⟨ns, nl, np, _, nk, nw, pl, fa, fb, sl, pp, pm, ki, fr, tg, wh, bw, rs, sn, fl, qw, hc2, hr2⟩, hW, hS, hT, hH, hA, hK⟩
theorem op_sight {l : Launch} {dp : Nat} {I : hI} {J : hJ} {lt tx : Option Nat} {x : Int32} {y : Int32} {z : Int32} {u : Int32} {v : Int32} {Q : hQ} (hI : INV I J lt) (hQ : ∀ (rv : Int32) I1 J1 lt1 tx1, ret2 l mX12_sight dp [.ref 82, .int x, .int y, .int z, .int u, .int v] (.int rv) I1 J1 lt1 tx1 → Q (some (.int rv)) hSH I1 J1 (hRR lt1 tx1)) : HC l mX11_sight (dp + 20) 0 0 [.ref 0, .int x, .int y, .int z, .int u, .int v] hSH I J (hRR lt tx) Q := by
  obtain ⟨⟨ns, nl, np, ml, nk, nw, pl, fa, fb, sl, pp, pm, ki, fr, tg, wh, bw, rs, sn, fl, qw, hc, hr⟩, hW, hS, hT, hH, hA, hK⟩ := hI
  obtain ⟨hcNF, hw, hcV, hvw, hcL⟩ := id hc
  obtain ⟨hrN, -, hrV, -, hrL⟩ := id hr
  obtain ⟨k6, k12, kW, k99, kr⟩ := id hw
  obtain ⟨k8, k2, k24, kP, kS⟩ := id hvw
  refine c_sight2 hc (fun nb => ?_) (fun ok h24 => ?_) (fun kn s p w hx hy hz hv h1 h5 hs hp hu1 hu2 hw1 hw2 hn => ?_)
  · refine hQ _ _ _ _ _ (fun Q2 hQ2 => ?_)
    exact r_sight2 hr (fun _ => hQ2 _ _ _ _ ⟨⟨ns, nl, np, ml, nk, nw, pl, fa, fb, sl, pp, pm, ki, fr, tg, wh, bw, rs, sn, fl, qw, hc, hr⟩, hW, hS, hT, hH, hA, hK⟩) (fun ok _ => absurd ok nb) (fun kn s p w hx hy hz hv h1 h5 hs hp hu1 hu2 hw1 hw2 hn => absurd ⟨rng_in hx h1 h5 (by omega), ⟨s, hs, hy⟩, ⟨p, hp, hz⟩, r999b hu1 hu2, w, hv, hw1, hw2⟩ nb)
  · refine hQ _ _ _ _ _ (fun Q2 hQ2 => ?_)
    exact r_sight2 hr (fun nb => absurd ok nb) (fun _ _ => hQ2 _ _ _ _ ⟨⟨ns, nl, np, ml, nk, nw, pl, fa, fb, sl, pp, pm, ki, fr, tg, wh, bw, rs, sn, fl, qw, hc, hr⟩, hW, hS, hT, hH, hA, hK⟩) (fun kn s p w hx hy hz hv h1 h5 hs hp hu1 hu2 hw1 hw2 hn => absurd hn (by omega))
  · refine hQ _ _ _ _ _ (fun Q2 hQ2 => ?_)
    refine r_sight2 (show rG _ ns nl np ml nk nw pl fa fb sl pp pm ki fr tg wh bw rs sn fl qw from hr) (fun nb => absurd ⟨rng_in hx h1 h5 (by omega), ⟨s, hs, hy⟩, ⟨p, hp, hz⟩, r999b hu1 hu2, w, hv, hw1, hw2⟩ nb) (fun _ h24 => absurd h24 (by omega)) (fun kn2 s2 p2 w2 hx2 hy2 hz2 hv2 h12 h52 _ _ _ _ hw12 _ _ => ?_)
    obtain rfl := nI_u hx hx2 (by omega) (by omega)
    obtain rfl := nI_u hy hy2 (by omega) (by omega)
    obtain rfl := nI_u hz hz2 (by omega) (by omega)
    obtain rfl := nI_u hv hv2 (by omega) (by omega)
    have hc2 := cG_sight hc h1 h5 hs hp hu1 hu2 hw1 hw2 hn
    have hr2 := rG_sight hr h1 h5 hs hp hu1 hu2 hw1 hw2 hn
    exact hQ2 _ _ _ _ ⟨⟨ns, nl, np, ml, nk + 1, nw, pl, fa, fb, sl, pp, pm, _, _, _, _, bw, rs, _, _, qw, hc2, hr2⟩, hW, hS, hT, hH, hA, hK⟩
theorem op_falls0 {l : Launch} {dp : Nat} {I : hI} {J : hJ} {lt tx : Option Nat} {x : Int32} {Q : hQ} (hI : INV I J lt) (hQ : ∀ (rv : Int32) I1 J1 lt1 tx1, ret2 l mX12_falls dp [.ref 82, .int x, .int (nI 0)] (.int rv) I1 J1 lt1 tx1 → Q (some (.int rv)) hSH I1 J1 (hRR lt1 tx1)) : HC l mX11_falls (dp + 20) 0 0 [.ref 0, .int x, .int (nI 0)] hSH I J (hRR lt tx) Q := by
  obtain ⟨⟨ns, nl, np, ml, nk, nw, pl, fa, fb, sl, pp, pm, ki, fr, tg, wh, bw, rs, sn, fl, qw, hc, hr⟩, hW, hS, hT, hH, hA, hK⟩ := hI
  obtain ⟨hcNF, hw, hcV, hvw, hcL⟩ := id hc
  obtain ⟨hrN, -, hrV, -, hrL⟩ := id hr
  obtain ⟨k6, k12, kW, k99, kr⟩ := id hw
  obtain ⟨k8, k2, k24, kP, kS⟩ := id hvw
  refine c_falls0 hc (fun nb => ?_) (fun k hx hk => ⟨fun ht => ?_, fun hf => ?_⟩)
  · refine hQ _ _ _ _ _ (fun Q2 hQ2 => ?_)
    exact r_falls0 hr (fun _ => hQ2 _ _ _ _ ⟨⟨ns, nl, np, ml, nk, nw, pl, fa, fb, sl, pp, pm, ki, fr, tg, wh, bw, rs, sn, fl, qw, hc, hr⟩, hW, hS, hT, hH, hA, hK⟩) (fun k hx hk => absurd ⟨k, hk, hx⟩ nb)
  · refine hQ _ _ _ _ _ (fun Q2 hQ2 => ?_)
    refine r_falls0 hr (fun nb => absurd ⟨k, hk, hx⟩ nb) (fun k2 hx2 hk2 => ?_)
    obtain rfl := nI_u hx hx2 (by omega) (by omega)
    refine ⟨fun _ => ?_, fun hf => by rw [ht] at hf; cases hf⟩
    have hc2 := hc
    rw [← upb_id ht] at hc2
    have hr2 := rG_fall (k := k2) (b := true) hr
    exact hQ2 _ _ _ _ ⟨⟨ns, nl, np, ml, nk, nw, pl, fa, fb, sl, pp, pm, ki, fr, tg, wh, bw, rs, sn, _, qw, hc2, hr2⟩, hW, hS, hT, hH, hA, hK⟩
  · refine hQ _ _ _ _ _ (fun Q2 hQ2 => ?_)
    refine r_falls0 (show rG _ ns nl np ml nk nw pl fa fb sl pp pm ki fr tg wh bw rs sn fl qw from hr) (fun nb => absurd ⟨k, hk, hx⟩ nb) (fun k2 hx2 hk2 => ?_)
    obtain rfl := nI_u hx hx2 (by omega) (by omega)
    refine ⟨fun ht => (by rw [ht] at hf; cases hf), fun _ => ?_⟩
    have hc2 := cG_fall (b := true) hc hk hf
    have hr2 := rG_fall (k := k2) (b := true) hr
    exact hQ2 _ _ _ _ ⟨⟨ns, nl, np, ml, nk, nw, pl, fa, fb, sl, pp, pm, ki, fr, tg, wh, bw, rs, sn, _, qw, hc2, hr2⟩, hW, hS, hT, hH, hA, hK⟩
theorem op_falls1 {l : Launch} {dp : Nat} {I : hI} {J : hJ} {lt tx : Option Nat} {x : Int32} {Q : hQ} (hI : INV I J lt) (hQ : ∀ (rv : Int32) I1 J1 lt1 tx1, ret2 l mX12_falls dp [.ref 82, .int x, .int (nI 1)] (.int rv) I1 J1 lt1 tx1 → Q (some (.int rv)) hSH I1 J1 (hRR lt1 tx1)) : HC l mX11_falls (dp + 20) 0 0 [.ref 0, .int x, .int (nI 1)] hSH I J (hRR lt tx) Q := by
  obtain ⟨⟨ns, nl, np, ml, nk, nw, pl, fa, fb, sl, pp, pm, ki, fr, tg, wh, bw, rs, sn, fl, qw, hc, hr⟩, hW, hS, hT, hH, hA, hK⟩ := hI
  obtain ⟨hcNF, hw, hcV, hvw, hcL⟩ := id hc
  obtain ⟨hrN, -, hrV, -, hrL⟩ := id hr
  obtain ⟨k6, k12, kW, k99, kr⟩ := id hw
  obtain ⟨k8, k2, k24, kP, kS⟩ := id hvw
  refine c_falls1 hc (fun nb => ?_) (fun k hx hk => ⟨fun ht => ?_, fun hf => ?_⟩)
  · refine hQ _ _ _ _ _ (fun Q2 hQ2 => ?_)
    exact r_falls1 hr (fun _ => hQ2 _ _ _ _ ⟨⟨ns, nl, np, ml, nk, nw, pl, fa, fb, sl, pp, pm, ki, fr, tg, wh, bw, rs, sn, fl, qw, hc, hr⟩, hW, hS, hT, hH, hA, hK⟩) (fun k hx hk => absurd ⟨k, hk, hx⟩ nb)
  · refine hQ _ _ _ _ _ (fun Q2 hQ2 => ?_)
    refine r_falls1 hr (fun nb => absurd ⟨k, hk, hx⟩ nb) (fun k2 hx2 hk2 => ?_)
    obtain rfl := nI_u hx hx2 (by omega) (by omega)
    refine ⟨fun _ => ?_, fun hf => by rw [ht] at hf; cases hf⟩
    have hc2 := hc
    rw [← upb_id ht] at hc2
    have hr2 := rG_fall (k := k2) (b := false) hr
    exact hQ2 _ _ _ _ ⟨⟨ns, nl, np, ml, nk, nw, pl, fa, fb, sl, pp, pm, ki, fr, tg, wh, bw, rs, sn, _, qw, hc2, hr2⟩, hW, hS, hT, hH, hA, hK⟩
  · refine hQ _ _ _ _ _ (fun Q2 hQ2 => ?_)
    refine r_falls1 (show rG _ ns nl np ml nk nw pl fa fb sl pp pm ki fr tg wh bw rs sn fl qw from hr) (fun nb => absurd ⟨k, hk, hx⟩ nb) (fun k2 hx2 hk2 => ?_)
    obtain rfl := nI_u hx hx2 (by omega) (by omega)
    refine ⟨fun ht => (by rw [ht] at hf; cases hf), fun _ => ?_⟩
    have hc2 := cG_fall (b := false) hc hk hf
    have hr2 := rG_fall (k := k2) (b := false) hr
    exact hQ2 _ _ _ _ ⟨⟨ns, nl, np, ml, nk, nw, pl, fa, fb, sl, pp, pm, ki, fr, tg, wh, bw, rs, sn, _, qw, hc2, hr2⟩, hW, hS, hT, hH, hA, hK⟩
theorem op_counted {l : Launch} {dp : Nat} {I : hI} {J : hJ} {lt tx : Option Nat} {x : Int32} {Q : hQ} (hI : INV I J lt) (hQ : ∀ (rv : Int32) I1 J1 lt1 tx1, ret2 l mX12_counted dp [.ref 82, .int x] (.int rv) I1 J1 lt1 tx1 → Q (some (.int rv)) hSH I1 J1 (hRR lt1 tx1)) : HC l mX11_counted (dp + 20) 0 0 [.ref 0, .int x] hSH I J (hRR lt tx) Q := by
  obtain ⟨⟨ns, nl, np, ml, nk, nw, pl, fa, fb, sl, pp, pm, ki, fr, tg, wh, bw, rs, sn, fl, qw, hc, hr⟩, hW, hS, hT, hH, hA, hK⟩ := hI
  obtain ⟨hcNF, hw, hcV, hvw, hcL⟩ := id hc
  obtain ⟨hrN, -, hrV, -, hrL⟩ := id hr
  obtain ⟨k6, k12, kW, k99, kr⟩ := id hw
  obtain ⟨k8, k2, k24, kP, kS⟩ := id hvw
  refine c_counted hc (fun nb => ?_) (fun p hp hx => ?_)
  · refine hQ _ _ _ _ _ (fun Q2 hQ2 => ?_)
    exact r_counted hr (fun _ => hQ2 _ _ _ _ ⟨⟨ns, nl, np, ml, nk, nw, pl, fa, fb, sl, pp, pm, ki, fr, tg, wh, bw, rs, sn, fl, qw, hc, hr⟩, hW, hS, hT, hH, hA, hK⟩) (fun p hp hx _ _ _ => absurd ⟨p, hp, hx⟩ nb)
  · refine hQ _ _ _ _ _ (fun Q2 hQ2 => ?_)
    refine r_counted hr (fun nb => absurd ⟨p, hp, hx⟩ nb) (fun p2 hp2 hx2 a b c => ?_)
    obtain rfl := nI_u hx hx2 (by omega) (by omega)
    exact hQ2 _ _ _ _ ⟨⟨ns, nl, np, ml, nk, nw, pl, fa, fb, sl, pp, pm, ki, fr, tg, wh, bw, rs, sn, fl, qw, hc, hr⟩, hW, hS, hT, hH, hA, hK⟩
theorem op_mayBe {l : Launch} {dp : Nat} {I : hI} {J : hJ} {lt tx : Option Nat} {x : Int32} {y : Int32} {z : Int32} {Q : hQ} (hI : INV I J lt) (hQ : ∀ (rv : Int32) I1 J1 lt1 tx1, ret2 l mX12_mayBe dp [.ref 82, .int x, .int y, .int z] (.int rv) I1 J1 lt1 tx1 → Q (some (.int rv)) hSH I1 J1 (hRR lt1 tx1)) : HC l mX11_mayBe (dp + 20) 0 0 [.ref 0, .int x, .int y, .int z] hSH I J (hRR lt tx) Q := by
  obtain ⟨⟨ns, nl, np, ml, nk, nw, pl, fa, fb, sl, pp, pm, ki, fr, tg, wh, bw, rs, sn, fl, qw, hc, hr⟩, hW, hS, hT, hH, hA, hK⟩ := hI
  obtain ⟨hcNF, hw, hcV, hvw, hcL⟩ := id hc
  obtain ⟨hrN, -, hrV, -, hrL⟩ := id hr
  obtain ⟨k6, k12, kW, k99, kr⟩ := id hw
  obtain ⟨k8, k2, k24, kP, kS⟩ := id hvw
  refine c_mayBe2 hc (fun nb => ?_) (fun ok s hx hs hd I1 hC1 => ?_) (fun ok s w hx hz hs hw9 hd I1 hC1 => ?_)
  · refine hQ _ _ _ _ _ (fun Q2 hQ2 => ?_)
    exact r_mayBe2 hr (fun _ => hQ2 _ _ _ _ ⟨⟨ns, nl, np, ml, nk, nw, pl, fa, fb, sl, pp, pm, ki, fr, tg, wh, bw, rs, sn, fl, qw, hc, hr⟩, hW, hS, hT, hH, hA, hK⟩) (fun ok => absurd ok nb) (fun ok => absurd ok nb)
  · obtain ⟨y1, y2, y3, y4, rfl⟩ := hC1
    refine hQ _ _ _ _ _ (fun Q2 hQ2 => ?_)
    refine r_mayBe2 (show rG _ ns nl np ml nk nw pl fa fb sl pp pm ki fr tg wh bw rs sn fl qw from hr) (fun nb => absurd ok nb) (fun _ s2 hx2 hs2 _ I2 hO2 => ?_) (fun _ s2 w2 hx2 _ hs2 _ hd2 => ?_)
    · obtain ⟨a1, a2, a3, a4, a5, a6, a7, rfl⟩ := hO2
      exact hQ2 _ _ _ _ ⟨⟨ns, nl, np, ml, nk, nw, pl, fa, fb, sl, pp, pm, ki, fr, tg, wh, bw, rs, sn, fl, qw, hc, hr⟩, hW, hS, hT, hH, hA, hK⟩
    · obtain rfl := nI_u hx hx2 (by omega) (by omega)
      exact absurd hd2 hd
  · obtain ⟨y1, y2, y3, y4, rfl⟩ := hC1
    refine hQ _ _ _ _ _ (fun Q2 hQ2 => ?_)
    refine r_mayBe2 (show rG _ ns nl np ml nk nw pl fa fb sl pp pm ki fr tg wh bw rs sn fl qw from hr) (fun nb => absurd ok nb) (fun _ s2 hx2 hs2 hd2 => ?_) (fun _ s2 w2 hx2 hz2 hs2 hw92 _ I2 hO2 => ?_)
    · obtain rfl := nI_u hx hx2 (by omega) (by omega)
      exact absurd hd hd2
    · obtain rfl := nI_u hx hx2 (by omega) (by omega)
      obtain rfl := nI_u hz hz2 (by omega) (by omega)
      obtain ⟨a1, a2, a3, a4, a5, a6, a7, rfl⟩ := hO2
      exact hQ2 _ _ _ _ ⟨⟨ns, nl, np, ml, nk, nw, pl, fa, fb, sl, pp, pm, ki, fr, tg, wh, bw, rs, sn, fl, qw, hc, hr⟩, hW, hS, hT, hH, hA, hK⟩
theorem op_next {l : Launch} {dp : Nat} {I : hI} {J : hJ} {lt tx : Option Nat} {x : Int32} {y : Int32} {Q : hQ} (hI : INV I J lt) (hQ : ∀ (rv : Int32) I1 J1 lt1 tx1, ret2 l mX12_next dp [.ref 82, .int x, .int y] (.int rv) I1 J1 lt1 tx1 → Q (some (.int rv)) hSH I1 J1 (hRR lt1 tx1)) : HC l mX11_next (dp + 20) 0 0 [.ref 0, .int x, .int y] hSH I J (hRR lt tx) Q := by
  obtain ⟨⟨ns, nl, np, ml, nk, nw, pl, fa, fb, sl, pp, pm, ki, fr, tg, wh, bw, rs, sn, fl, qw, hc, hr⟩, hW, hS, hT, hH, hA, hK⟩ := hI
  obtain ⟨hcNF, hw, hcV, hvw, hcL⟩ := id hc
  obtain ⟨hrN, -, hrV, -, hrL⟩ := id hr
  obtain ⟨k6, k12, kW, k99, kr⟩ := id hw
  obtain ⟨k8, k2, k24, kP, kS⟩ := id hvw
  refine c_next hc (fun nb => ?_) (fun p kn hx hy hp h1 h5 => ?_)
  · refine hQ _ _ _ _ _ (fun Q2 hQ2 => ?_)
    exact r_next hr (fun _ => hQ2 _ _ _ _ ⟨⟨ns, nl, np, ml, nk, nw, pl, fa, fb, sl, pp, pm, ki, fr, tg, wh, bw, rs, sn, fl, qw, hc, hr⟩, hW, hS, hT, hH, hA, hK⟩) (fun p kn hx hy hp h1 h5 _ _ _ => absurd ⟨⟨p, hp, hx⟩, rng_in hy h1 h5 (by omega)⟩ nb)
  · refine hQ _ _ _ _ _ (fun Q2 hQ2 => ?_)
    refine r_next hr (fun nb => absurd ⟨⟨p, hp, hx⟩, rng_in hy h1 h5 (by omega)⟩ nb) (fun p2 kn2 hx2 hy2 hp2 _ _ a b c => ?_)
    obtain rfl := nI_u hx hx2 (by omega) (by omega)
    obtain rfl := nI_u hy hy2 (by omega) (by omega)
    exact hQ2 _ _ _ _ ⟨⟨ns, nl, np, ml, nk, nw, pl, fa, fb, sl, pp, pm, ki, fr, tg, wh, bw, rs, sn, fl, qw, hc, hr⟩, hW, hS, hT, hH, hA, hK⟩
theorem op_behind {l : Launch} {dp : Nat} {I : hI} {J : hJ} {lt tx : Option Nat} {x : Int32} {y : Int32} {Q : hQ} (hI : INV I J lt) (hQ : ∀ (rv : Int32) I1 J1 lt1 tx1, ret2 l mX12_behind dp [.ref 82, .int x, .int y] (.int rv) I1 J1 lt1 tx1 → Q (some (.int rv)) hSH I1 J1 (hRR lt1 tx1)) : HC l mX11_behind (dp + 20) 0 0 [.ref 0, .int x, .int y] hSH I J (hRR lt tx) Q := by
  obtain ⟨⟨ns, nl, np, ml, nk, nw, pl, fa, fb, sl, pp, pm, ki, fr, tg, wh, bw, rs, sn, fl, qw, hc, hr⟩, hW, hS, hT, hH, hA, hK⟩ := hI
  obtain ⟨hcNF, hw, hcV, hvw, hcL⟩ := id hc
  obtain ⟨hrN, -, hrV, -, hrL⟩ := id hr
  obtain ⟨k6, k12, kW, k99, kr⟩ := id hw
  obtain ⟨k8, k2, k24, kP, kS⟩ := id hvw
  refine c_behind2 hc (fun nb => ?_) (fun ok s hx hs hd I1 hC1 => ?_) (fun s q hx hy hs hq hd I1 hC1 => ?_)
  · refine hQ _ _ _ _ _ (fun Q2 hQ2 => ?_)
    exact r_behind2 hr (fun _ => hQ2 _ _ _ _ ⟨⟨ns, nl, np, ml, nk, nw, pl, fa, fb, sl, pp, pm, ki, fr, tg, wh, bw, rs, sn, fl, qw, hc, hr⟩, hW, hS, hT, hH, hA, hK⟩) (fun ok => absurd ok nb) (fun s q hx hy hs hq _ _ _ => absurd ⟨⟨s, hs, hx⟩, ⟨q, hq, hy⟩⟩ nb)
  · obtain ⟨y1, y2, y3, y4, rfl⟩ := hC1
    refine hQ _ _ _ _ _ (fun Q2 hQ2 => ?_)
    refine r_behind2 (show rG _ ns nl np ml nk nw pl fa fb sl pp pm ki fr tg wh bw rs sn fl qw from hr) (fun nb => absurd ok nb) (fun _ s2 hx2 hs2 _ I2 hO2 => ?_) (fun s2 q2 hx2 _ hs2 _ hd2 => ?_)
    · obtain ⟨a1, a2, a3, a4, a5, a6, a7, rfl⟩ := hO2
      exact hQ2 _ _ _ _ ⟨⟨ns, nl, np, ml, nk, nw, pl, fa, fb, sl, pp, pm, ki, fr, tg, wh, bw, rs, sn, fl, qw, hc, hr⟩, hW, hS, hT, hH, hA, hK⟩
    · obtain rfl := nI_u hx hx2 (by omega) (by omega)
      exact absurd hd2 hd
  · obtain ⟨y1, y2, y3, y4, rfl⟩ := hC1
    refine hQ _ _ _ _ _ (fun Q2 hQ2 => ?_)
    refine r_behind2 (show rG _ ns nl np ml nk nw pl fa fb sl pp pm ki fr tg wh bw rs sn fl qw from hr) (fun nb => absurd ⟨⟨s, hs, hx⟩, ⟨q, hq, hy⟩⟩ nb) (fun _ s2 hx2 hs2 hd2 => ?_) (fun s2 q2 hx2 hy2 hs2 hq2 _ I2 hO2 => ?_)
    · obtain rfl := nI_u hx hx2 (by omega) (by omega)
      exact absurd hd hd2
    · obtain rfl := nI_u hx hx2 (by omega) (by omega)
      obtain rfl := nI_u hy hy2 (by omega) (by omega)
      obtain ⟨a1, a2, a3, a4, a5, a6, a7, rfl⟩ := hO2
      exact hQ2 _ _ _ _ ⟨⟨ns, nl, np, ml, nk, nw, pl, fa, fb, sl, pp, pm, ki, fr, tg, wh, bw, rs, sn, fl, qw, hc, hr⟩, hW, hS, hT, hH, hA, hK⟩
theorem op_highest {l : Launch} {dp : Nat} {I : hI} {J : hJ} {lt tx : Option Nat} {x : Int32} {w : Int32} {Q : hQ} (hI : INV I J lt) (hQ : ∀ (rv : Int64) I1 J1 lt1 tx1, ret2 l mX12_highest dp [.ref 82, .int x, .int w] (.long rv) I1 J1 lt1 tx1 → Q (some (.long rv)) hSH I1 J1 (hRR lt1 tx1)) : HC l mX11_highest (dp + 20) 0 0 [.ref 0, .int x, .int w] hSH I J (hRR lt tx) Q := by
  obtain ⟨⟨ns, nl, np, ml, nk, nw, pl, fa, fb, sl, pp, pm, ki, fr, tg, wh, bw, rs, sn, fl, qw, hc, hr⟩, hW, hS, hT, hH, hA, hK⟩ := hI
  obtain ⟨hcNF, hw, hcV, hvw, hcL⟩ := id hc
  obtain ⟨hrN, -, hrV, -, hrL⟩ := id hr
  obtain ⟨k6, k12, kW, k99, kr⟩ := id hw
  obtain ⟨k8, k2, k24, kP, kS⟩ := id hvw
  refine c_highest2 hc (fun nb => ?_) (fun ok p hx hp hs I1 hC1 => ?_) (fun ok p q hx hp hs hn I1 hC1 => ?_) (fun ok p q hx hp hs hn I1 hC1 => ?_)
  · refine hQ _ _ _ _ _ (fun Q2 hQ2 => ?_)
    exact r_highest2 hr (fun _ => hQ2 _ _ _ _ ⟨⟨ns, nl, np, ml, nk, nw, pl, fa, fb, sl, pp, pm, ki, fr, tg, wh, bw, rs, sn, fl, qw, hc, hr⟩, hW, hS, hT, hH, hA, hK⟩) (fun ok p hx hp => absurd ⟨⟨p, hp, hx⟩, ok⟩ nb) (fun ok p q hx hp => absurd ⟨⟨p, hp, hx⟩, ok⟩ nb) (fun ok p q hx hp => absurd ⟨⟨p, hp, hx⟩, ok⟩ nb)
  · obtain ⟨y1, y2, y3, y4, rfl⟩ := hC1
    refine hQ _ _ _ _ _ (fun Q2 hQ2 => ?_)
    refine r_highest2 (show rG _ ns nl np ml nk nw pl fa fb sl pp pm ki fr tg wh bw rs sn fl qw from hr) (fun nb => absurd ⟨⟨p, hp, hx⟩, ok⟩ nb) (fun _ p2 hx2 hp2 _ I2 hO2 => ?_) (fun _ p2 q2 hx2 hp2 hs2 => ?_) (fun _ p2 q2 hx2 hp2 hs2 => ?_)
    · obtain ⟨b1, b2, b3, a1, a2, a3, a4, a5, a6, a7, rfl⟩ := hO2
      exact hQ2 _ _ _ _ ⟨⟨ns, nl, np, ml, nk, nw, pl, fa, fb, sl, pp, pm, ki, fr, tg, wh, bw, rs, sn, fl, qw, hc, hr⟩, hW, hS, hT, hH, hA, hK⟩
    · obtain rfl := nI_u hx hx2 (by omega) (by omega)
      rw [hs] at hs2
      cases hs2
    · obtain rfl := nI_u hx hx2 (by omega) (by omega)
      rw [hs] at hs2
      cases hs2
  · obtain ⟨y1, y2, y3, y4, rfl⟩ := hC1
    refine hQ _ _ _ _ _ (fun Q2 hQ2 => ?_)
    refine r_highest2 (show rG _ ns nl np ml nk nw pl fa fb sl pp pm ki fr tg wh bw rs sn fl qw from hr) (fun nb => absurd ⟨⟨p, hp, hx⟩, ok⟩ nb) (fun _ p2 hx2 hp2 hs2 => ?_) (fun _ p2 q2 hx2 hp2 hs2 _ I2 hO2 => ?_) (fun _ p2 q2 hx2 hp2 hs2 hn2 => absurd hn2 hn)
    · obtain rfl := nI_u hx hx2 (by omega) (by omega)
      rw [hs] at hs2
      cases hs2
    · obtain ⟨b1, b2, b3, a1, a2, a3, a4, a5, a6, a7, rfl⟩ := hO2
      exact hQ2 _ _ _ _ ⟨⟨ns, nl, np, ml, nk, nw, pl, fa, fb, sl, pp, pm, ki, fr, tg, wh, bw, rs, sn, fl, qw, hc, hr⟩, hW, hS, hT, hH, hA, hK⟩
  · obtain ⟨y1, y2, y3, y4, rfl⟩ := hC1
    refine ⟨fun h0 => ?_, fun h1 => ?_⟩
    · refine hQ _ _ _ _ _ (fun Q2 hQ2 => ?_)
      refine r_highest2 (show rG _ ns nl np ml nk nw pl fa fb sl pp pm ki fr tg wh bw rs sn fl qw from hr) (fun nb => absurd ⟨⟨p, hp, hx⟩, ok⟩ nb) (fun _ p2 hx2 hp2 hs2 => ?_) (fun _ p2 q2 hx2 hp2 hs2 hn2 => absurd hn hn2) (fun _ p2 q2 hx2 hp2 hs2 _ I2 hO2 => ?_)
      · obtain rfl := nI_u hx hx2 (by omega) (by omega)
        rw [hs] at hs2
        cases hs2
      · obtain rfl := nI_u hx hx2 (by omega) (by omega)
        rw [hs] at hs2
        cases hs2
        obtain ⟨b1, b2, b3, a1, a2, a3, a4, a5, a6, a7, rfl⟩ := hO2
        exact ⟨fun _ => hQ2 _ _ _ _ ⟨⟨ns, nl, np, ml, nk, nw, pl, fa, fb, sl, pp, pm, ki, fr, tg, wh, bw, rs, sn, fl, qw, hc, hr⟩, hW, hS, hT, hH, hA, hK⟩, fun h1 => absurd (h0.symm.trans h1) (by decide)⟩
    · refine hQ _ _ _ _ _ (fun Q2 hQ2 => ?_)
      refine r_highest2 (show rG _ ns nl np ml nk nw pl fa fb sl pp pm ki fr tg wh bw rs sn fl qw from hr) (fun nb => absurd ⟨⟨p, hp, hx⟩, ok⟩ nb) (fun _ p2 hx2 hp2 hs2 => ?_) (fun _ p2 q2 hx2 hp2 hs2 hn2 => absurd hn hn2) (fun _ p2 q2 hx2 hp2 hs2 _ I2 hO2 => ?_)
      · obtain rfl := nI_u hx hx2 (by omega) (by omega)
        rw [hs] at hs2
        cases hs2
      · obtain rfl := nI_u hx hx2 (by omega) (by omega)
        rw [hs] at hs2
        cases hs2
        obtain ⟨b1, b2, b3, a1, a2, a3, a4, a5, a6, a7, rfl⟩ := hO2
        exact ⟨fun h0 => absurd (h0.symm.trans h1) (by decide), fun _ => hQ2 _ _ _ _ ⟨⟨ns, nl, np, ml, nk, nw, pl, fa, fb, sl, pp, pm, ki, fr, tg, wh, bw, rs, sn, fl, qw, hc, hr⟩, hW, hS, hT, hH, hA, hK⟩⟩
