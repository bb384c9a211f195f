def PG (I : hI) : Prop := ∃ (ns nl np ml nk nw : Nat) (pl fa fb sl pp pm ki fr tg wh bw : Nat → Nat) (rs sn : Nat → Int32) (fl : Nat → Bool) (qw : Nat → Nat → Nat → Nat → Bool), cG I ns nl np ml nk nw pl fa fb sl pp pm ki fr tg wh bw rs sn fl qw ∧ rG I ns nl np ml nk nw pl fa fb sl pp pm ki fr tg wh bw rs sn fl qw
def PW (I : hI) : Prop := ∃ (nr : Nat) (rc : Nat → Int32), cR I nr rc ∧ rR I nr rc
def PS (I : hI) (J : hJ) : Prop := ∃ (so : Nat → Int32) (si : Nat → Nat) (it : Nat → Nat → Int64), cSh I J so si it ∧ rSh I J so si it
def PT (I : hI) : Prop := ∃ (nt : Nat) (tp : Nat → Nat), cT I nt tp ∧ rT I nt tp
def PH (I : hI) : Prop := ∃ (sk : Nat → Nat) (sm sz : Nat → Int32), cH I sk sm sz ∧ rH I sk sm sz
def PA (I : hI) (lt : Option Nat) : Prop := ∃ (na : Nat) (tr : Nat → Nat), cTr I lt na tr ∧ rTr I na tr
def PK (I : hI) : Prop := (I 0 4 = nI 0 ∧ I 82 50 = nI 0) ∨ (I 0 4 = nI 1 ∧ I 82 50 = nI 1 ∧ ∃ (ns nl np ml nk nw : Nat) (pl fa fb sl pp pm ki fr tg wh bw : Nat → Nat) (rs sn : Nat → Int32) (fl : Nat → Bool) (qw : Nat → Nat → Nat → Nat → Bool), kG I ns nl np ml nk nw pl fa fb sl pp pm ki fr tg wh bw rs sn fl qw ∧ rG (rst8 I) ns nl np ml nk nw pl fa fb sl pp pm ki fr tg wh bw rs sn fl qw)
def INV (I : hI) (J : hJ) (lt : Option Nat) : Prop := PG I ∧ PW I ∧ PS I J ∧ PT I ∧ PH I ∧ PA I lt ∧ PK I
theorem cG_c {I I2 : hI} {ns nl np ml nk nw : Nat} {pl fa fb sl pp pm ki fr tg wh bw : Nat → Nat} {rs sn : Nat → Int32} {fl : Nat → Bool} {qw : Nat → Nat → Nat → Nat → Bool} (h : ∀ a, 1 ≤ a → a ≤ 24 → a ≠ 11 → I2 a = I a) (hG : cG I ns nl np ml nk nw pl fa fb sl pp pm ki fr tg wh bw rs sn fl qw) : cG I2 ns nl np ml nk nw pl fa fb sl pp pm ki fr tg wh bw rs sn fl qw := by
  have e : (fun a => if 1 ≤ a ∧ a ≤ 24 ∧ a ≠ 11 then I a else I2 a) = I2 := by
    funext a
    by_cases q : 1 ≤ a ∧ a ≤ 24 ∧ a ≠ 11
    · rw [if_pos q, h a q.1 q.2.1 q.2.2]
    · rw [if_neg q]
  rw [← e]
  exact hG
theorem kG_c {I I2 : hI} {ns nl np ml nk nw : Nat} {pl fa fb sl pp pm ki fr tg wh bw : Nat → Nat} {rs sn : Nat → Int32} {fl : Nat → Bool} {qw : Nat → Nat → Nat → Nat → Bool} (h : ∀ a, 28 ≤ a → a ≤ 54 → I2 a = I a) (hG : kG I ns nl np ml nk nw pl fa fb sl pp pm ki fr tg wh bw rs sn fl qw) : kG I2 ns nl np ml nk nw pl fa fb sl pp pm ki fr tg wh bw rs sn fl qw := by
  have e : (fun a => if 28 ≤ a ∧ a ≤ 54 then I a else I2 a) = I2 := by
    funext a
    by_cases q : 28 ≤ a ∧ a ≤ 54
    · rw [if_pos q, h a q.1 q.2]
    · rw [if_neg q]
  rw [← e]
  exact hG
theorem rG_c {I I2 : hI} {ns nl np ml nk nw : Nat} {pl fa fb sl pp pm ki fr tg wh bw : Nat → Nat} {rs sn : Nat → Int32} {fl : Nat → Bool} {qw : Nat → Nat → Nat → Nat → Bool} (h : ∀ a, 83 ≤ a → a ≤ 89 → I2 a = I a) (h0 : I2 82 0 = I 82 0) (h2 : I2 82 2 = I 82 2) (h4 : I2 82 4 = I 82 4) (h6 : I2 82 6 = I 82 6) (h7 : I2 82 7 = I 82 7) (h9 : I2 82 9 = I 82 9) (hG : rG I ns nl np ml nk nw pl fa fb sl pp pm ki fr tg wh bw rs sn fl qw) : rG I2 ns nl np ml nk nw pl fa fb sl pp pm ki fr tg wh bw rs sn fl qw := by
  unfold rG rN rV rW
  rw [h0, h2, h4, h6, h7, h9, h 83 (by omega) (by omega), h 84 (by omega) (by omega), h 85 (by omega) (by omega), h 86 (by omega) (by omega), h 87 (by omega) (by omega), h 88 (by omega) (by omega), h 89 (by omega) (by omega)]
  exact hG
theorem PW_c {I I2 : hI} (h9 : I2 0 9 = I 0 9) (h62 : I2 62 = I 62) (h37 : I2 82 37 = I 82 37) (h103 : I2 103 = I 103) (h : PW I) : PW I2 := by
  unfold PW cR rR
  rw [h9, h62, h37, h103]
  exact h
theorem PS_c {I I2 : hI} {J J2 : hJ} (h63 : I2 63 = I 63) (h64 : I2 64 = I 64) (h104 : I2 104 = I 104) (h105 : I2 105 = I 105) (j65 : J2 65 = J 65) (j106 : J2 106 = J 106) (h : PS I J) : PS I2 J2 := by
  unfold PS cSh rSh
  rw [h63, h64, h104, h105, j65, j106]
  exact h
theorem PT_c {I I2 : hI} (h7 : I2 0 7 = I 0 7) (h61 : I2 61 = I 61) (h22 : I2 82 22 = I 82 22) (h96 : I2 96 = I 96) (h : PT I) : PT I2 := by
  unfold PT cT rT
  rw [h7, h61, h22, h96]
  exact h
theorem PH_c {I I2 : hI} (h66 : I2 66 = I 66) (h67 : I2 67 = I 67) (h68 : I2 68 = I 68) (h107 : I2 107 = I 107) (h108 : I2 108 = I 108) (h109 : I2 109 = I 109) (h : PH I) : PH I2 := by
  unfold PH cH rH
  rw [h66, h67, h68, h107, h108, h109]
  exact h
theorem PA_c {I I2 : hI} {lt : Option Nat} (h : ∀ a, 70 ≤ a → a ≤ 81 → I2 a = I a) (h48 : I2 82 48 = I 82 48) (h110 : I2 110 = I 110) (hA : PA I lt) : PA I2 lt := by
  have e : (fun a => if 70 ≤ a ∧ a ≤ 81 then I a else I2 a) = I2 := by
    funext a
    by_cases q : 70 ≤ a ∧ a ≤ 81
    · rw [if_pos q, h a q.1 q.2]
    · rw [if_neg q]
  obtain ⟨na, tr, h1, h2⟩ := hA
  refine ⟨na, tr, ?_, ?_⟩
  · rw [← e]
    exact h1
  · unfold rTr
    rw [h48, h110]
    exact h2
theorem PK_c {I I2 : hI} (h04 : I2 0 4 = I 0 4) (h50 : I2 82 50 = I 82 50) (hk : ∀ a, 28 ≤ a → a ≤ 54 → I2 a = I a) (h111 : I2 111 = I 111) (h : PK I) : PK I2 := by
  unfold PK
  rw [h04, h50]
  rcases h with h | ⟨q1, q2, ns, nl, np, ml, nk, nw, pl, fa, fb, sl, pp, pm, ki, fr, tg, wh, bw, rs, sn, fl, qw, q3, q4⟩
  · exact .inl h
  · refine .inr ⟨q1, q2, _, _, _, _, _, _, _, _, _, _, _, _, _, _, _, _, _, _, _, _, _, kG_c hk q3, ?_⟩
    refine rG_c (fun a z1 z2 => ?_) ?_ ?_ ?_ ?_ ?_ ?_ q4
    · rcases (show a = 83 ∨ a = 84 ∨ a = 85 ∨ a = 86 ∨ a = 87 ∨ a = 88 ∨ a = 89 by omega) with rfl | rfl | rfl | rfl | rfl | rfl | rfl
      · funext j; show I2 111 (6 + j) = I 111 (6 + j); rw [h111]
      · funext j; show I2 111 (12 + j) = I 111 (12 + j); rw [h111]
      · funext j; show I2 111 (60 + j) = I 111 (60 + j); rw [h111]
      · funext j; show I2 111 (76 + j) = I 111 (76 + j); rw [h111]
      · funext j; show I2 111 (244 + j) = I 111 (244 + j); rw [h111]
      · funext j; show I2 111 (252 + j) = I 111 (252 + j); rw [h111]
      · funext j; show I2 111 (260 + j) = I 111 (260 + j); rw [h111]
    · show I2 111 0 = I 111 0; rw [h111]
    · show I2 111 1 = I 111 1; rw [h111]
    · show I2 111 2 = I 111 2; rw [h111]
    · show I2 111 5 = I 111 5; rw [h111]
    · show I2 111 3 = I 111 3; rw [h111]
    · show I2 111 4 = I 111 4; rw [h111]
theorem netW_s9 {ns nl pv : Nat} {pl fa fb sl : Nat → Nat} {rs : Nat → Int32} (h : netW ns nl pl fa fb sl rs) (hn : ns < 6) (hp : pv ≤ 99) : netW (ns + 1) nl (upn pl ns pv) fa fb sl rs := by
  obtain ⟨h6, h12, hW, h99, hr⟩ := h
  refine ⟨by omega, h12, fun k hk => ?_, fun s hs => ?_, hr⟩
  · obtain ⟨a, b, c⟩ := hW k hk
    exact ⟨by omega, by omega, c⟩
  · by_cases e : s = ns
    · subst e; rw [upn_s]; exact hp
    · rw [upn_n _ _ e]; exact h99 s (by omega)
theorem viewW_st {ns np ml nk : Nat} {pp pm ki fr tg wh : Nat → Nat} {sn : Nat → Int32} (h : viewW ns np ml nk pp pm ki fr tg wh sn) : viewW (ns + 1) np ml nk pp pm ki fr tg wh sn := by
  obtain ⟨h1, h2, h3, h4, h5⟩ := h
  refine ⟨h1, h2, h3, h4, fun k hk => ?_⟩
  obtain ⟨a, b, c, d⟩ := h5 k hk
  exact ⟨a, b, by omega, d⟩
theorem cG_station {I : hI} {ns nl np ml nk nw : Nat} {pl fa fb sl pp pm ki fr tg wh bw : Nat → Nat} {rs sn : Nat → Int32} {fl : Nat → Bool} {qw : Nat → Nat → Nat → Nat → Bool} {pv : Nat} {g1 g2 g3 : Nat → Int32} (hG : cG I ns nl np ml nk nw pl fa fb sl pp pm ki fr tg wh bw rs sn fl qw) (hn : ns < 6) (hp : pv ≤ 99) (e1 : ∀ s, s < ns + 1 → g1 s = enc (dist fa fb sl nl s)) (e2 : ∀ s, s < ns + 1 → g2 s = lsI fa fb sl (dist fa fb sl nl) nl s) (e3 : ∀ s, s < ns + 1 → g3 s = lvl fa fb sl rs nl s) : cG (upA (upA (upA (upI (upI I 3 ns (nI pv)) 2 0 (nI (ns + 1))) 8 g1) 9 g2) 10 g3) (ns + 1) nl np ml nk nw (upn pl ns pv) fa fb sl pp pm ki fr tg wh bw rs sn fl qw := by
  obtain ⟨⟨⟨hns, hnl, hpl, hlg⟩, -, -, -⟩, hw, hV, hvw, hL⟩ := hG
  exact ⟨⟨⟨rfl, hnl, upd_nI hpl, hlg⟩, e1, e2, e3⟩, netW_s9 hw hn hp, hV, viewW_st hvw, hL⟩
theorem rG_station {I : hI} {ns nl np ml nk nw : Nat} {pl fa fb sl pp pm ki fr tg wh bw : Nat → Nat} {rs sn : Nat → Int32} {fl : Nat → Bool} {qw : Nat → Nat → Nat → Nat → Bool} {pv : Nat} (hG : rG I ns nl np ml nk nw pl fa fb sl pp pm ki fr tg wh bw rs sn fl qw) (hn : ns < 6) (hp : pv ≤ 99) : rG (upI (upI I 83 ns (nI pv)) 82 0 (nI (ns + 1))) (ns + 1) nl np ml nk nw (upn pl ns pv) fa fb sl pp pm ki fr tg wh bw rs sn fl qw := by
  obtain ⟨⟨hns, hnl, hpl, hlg⟩, hw, hV, hvw, hL⟩ := hG
  exact ⟨⟨rfl, hnl, upd_nI hpl, hlg⟩, netW_s9 hw hn hp, hV, viewW_st hvw, hL⟩
theorem netW_lg {ns nl a b w : Nat} {pl fa fb sl : Nat → Nat} {rs : Nat → Int32} {r : Int32} (h : netW ns nl pl fa fb sl rs) (hn : nl < 12) (ha : a < ns) (hb : b < ns) (hab : a ≠ b) (h1 : 1 ≤ w) (h9 : w ≤ 9) (hr1 : -99 ≤ r.toInt) (hr2 : r.toInt ≤ 99) : netW ns (nl + 1) pl (upn fa nl a) (upn fb nl b) (upn sl nl w) (upd rs nl r) := by
  obtain ⟨h6, h12, hW, h99, hr⟩ := h
  refine ⟨h6, by omega, fun k hk => ?_, h99, fun k hk => ?_⟩
  · by_cases e : k = nl
    · subst e; rw [upn_s, upn_s, upn_s]; exact ⟨ha, hb, hab, h1, h9⟩
    · rw [upn_n _ _ e, upn_n _ _ e, upn_n _ _ e]; exact hW k (by omega)
  · by_cases e : k = nl
    · subst e; rw [upd_s]; exact ⟨hr1, hr2⟩
    · rw [upd_n _ _ e]; exact hr k (by omega)
theorem cG_leg {I : hI} {ns nl np ml nk nw : Nat} {pl fa fb sl pp pm ki fr tg wh bw : Nat → Nat} {rs sn : Nat → Int32} {fl : Nat → Bool} {qw : Nat → Nat → Nat → Nat → Bool} {a b w : Nat} {r : Int32} {g1 g2 g3 : Nat → Int32} (hG : cG I ns nl np ml nk nw pl fa fb sl pp pm ki fr tg wh bw rs sn fl qw) (hW2 : netW ns (nl + 1) pl (upn fa nl a) (upn fb nl b) (upn sl nl w) (upd rs nl r)) (e1 : ∀ s, s < ns → g1 s = enc (dist (upn fa nl a) (upn fb nl b) (upn sl nl w) (nl + 1) s)) (e2 : ∀ s, s < ns → g2 s = lsI (upn fa nl a) (upn fb nl b) (upn sl nl w) (dist (upn fa nl a) (upn fb nl b) (upn sl nl w) (nl + 1)) (nl + 1) s) (e3 : ∀ s, s < ns → g3 s = lvl (upn fa nl a) (upn fb nl b) (upn sl nl w) (upd rs nl r) (nl + 1) s) : cG (upA (upA (upA (upI (upI (upI (upI (upI I 4 nl (nI a)) 5 nl (nI b)) 6 nl r) 7 nl (nI w)) 2 2 (nI (nl + 1))) 8 g1) 9 g2) 10 g3) ns (nl + 1) np ml nk nw pl (upn fa nl a) (upn fb nl b) (upn sl nl w) pp pm ki fr tg wh bw (upd rs nl r) sn fl qw := by
  obtain ⟨⟨⟨hns, hnl, hpl, hlg⟩, -, -, -⟩, hw, hV, hvw, hL⟩ := hG
  refine ⟨⟨⟨hns, rfl, hpl, fun k hk => ?_⟩, e1, e2, e3⟩, hW2, hV, hvw, hL⟩
  show upd (I 4) nl (nI a) k = _ ∧ upd (I 5) nl (nI b) k = _ ∧ upd (I 6) nl r k = _ ∧ upd (I 7) nl (nI w) k = _
  by_cases e : k = nl
  · subst e
    rw [upn_s, upn_s, upn_s, upd_s, upd_s, upd_s, upd_s, upd_s]
    exact ⟨rfl, rfl, rfl, rfl⟩
  · rw [upn_n _ _ e, upn_n _ _ e, upn_n _ _ e, upd_n _ _ e, upd_n _ _ e, upd_n _ _ e, upd_n _ _ e, upd_n _ _ e]
    exact hlg k (by omega)
theorem rG_leg {I : hI} {ns nl np ml nk nw : Nat} {pl fa fb sl pp pm ki fr tg wh bw : Nat → Nat} {rs sn : Nat → Int32} {fl : Nat → Bool} {qw : Nat → Nat → Nat → Nat → Bool} {a b w : Nat} {r : Int32} (hG : rG I ns nl np ml nk nw pl fa fb sl pp pm ki fr tg wh bw rs sn fl qw) (hW2 : netW ns (nl + 1) pl (upn fa nl a) (upn fb nl b) (upn sl nl w) (upd rs nl r)) : rG (upI (upI (upI (upI (upI I 84 (4 * nl) (nI a)) 84 (4 * nl + 1) (nI b)) 84 (4 * nl + 2) r) 84 (4 * nl + 3) (nI w)) 82 2 (nI (nl + 1))) ns (nl + 1) np ml nk nw pl (upn fa nl a) (upn fb nl b) (upn sl nl w) pp pm ki fr tg wh bw (upd rs nl r) sn fl qw := by
  obtain ⟨⟨hns, hnl, hpl, hlg⟩, hw, hV, hvw, hL⟩ := hG
  refine ⟨⟨hns, rfl, hpl, fun k hk => ?_⟩, hW2, hV, hvw, hL⟩
  show (upd (upd (upd (upd (I 84) (4 * nl) (nI a)) (4 * nl + 1) (nI b)) (4 * nl + 2) r) (4 * nl + 3) (nI w)) (4 * k) = _ ∧ (upd (upd (upd (upd (I 84) (4 * nl) (nI a)) (4 * nl + 1) (nI b)) (4 * nl + 2) r) (4 * nl + 3) (nI w)) (4 * k + 1) = _ ∧ (upd (upd (upd (upd (I 84) (4 * nl) (nI a)) (4 * nl + 1) (nI b)) (4 * nl + 2) r) (4 * nl + 3) (nI w)) (4 * k + 2) = _ ∧ (upd (upd (upd (upd (I 84) (4 * nl) (nI a)) (4 * nl + 1) (nI b)) (4 * nl + 2) r) (4 * nl + 3) (nI w)) (4 * k + 3) = _
  by_cases e : k = nl
  · subst e
    rw [upn_s, upn_s, upn_s, upd_s rs]
    refine ⟨?_, ?_, ?_, ?_⟩
    · rw [upd_n _ _ (by omega), upd_n _ _ (by omega), upd_n _ _ (by omega), upd_s]
    · rw [upd_n _ _ (by omega), upd_n _ _ (by omega), upd_s]
    · rw [upd_n _ _ (by omega), upd_s]
    · rw [upd_s]
  · obtain ⟨b0, b1, b2, b3⟩ := hlg k (by omega)
    rw [upn_n _ _ e, upn_n _ _ e, upn_n _ _ e, upd_n rs _ e]
    refine ⟨?_, ?_, ?_, ?_⟩
    · rw [upd_n _ _ (by omega), upd_n _ _ (by omega), upd_n _ _ (by omega), upd_n _ _ (by omega)]; exact b0
    · rw [upd_n _ _ (by omega), upd_n _ _ (by omega), upd_n _ _ (by omega), upd_n _ _ (by omega)]; exact b1
    · rw [upd_n _ _ (by omega), upd_n _ _ (by omega), upd_n _ _ (by omega), upd_n _ _ (by omega)]; exact b2
    · rw [upd_n _ _ (by omega), upd_n _ _ (by omega), upd_n _ _ (by omega), upd_n _ _ (by omega)]; exact b3
theorem netW_mr {ns nl k : Nat} {pl fa fb sl : Nat → Nat} {rs : Nat → Int32} {r : Int32} (h : netW ns nl pl fa fb sl rs) (hr1 : -99 ≤ r.toInt) (hr2 : r.toInt ≤ 99) : netW ns nl pl fa fb sl (upd rs k r) := by
  obtain ⟨h6, h12, hW, h99, hr⟩ := h
  refine ⟨h6, h12, hW, h99, fun j hj => ?_⟩
  by_cases e : j = k
  · subst e; rw [upd_s]; exact ⟨hr1, hr2⟩
  · rw [upd_n _ _ e]; exact hr j hj
theorem netW_ms {ns nl k w : Nat} {pl fa fb sl : Nat → Nat} {rs : Nat → Int32} (h : netW ns nl pl fa fb sl rs) (h1 : 1 ≤ w) (h9 : w ≤ 9) : netW ns nl pl fa fb (upn sl k w) rs := by
  obtain ⟨h6, h12, hW, h99, hr⟩ := h
  refine ⟨h6, h12, fun j hj => ?_, h99, hr⟩
  obtain ⟨a, b, c, d⟩ := hW j hj
  by_cases e : j = k
  · subst e; rw [upn_s]; exact ⟨a, b, c, h1, h9⟩
  · rw [upn_n _ _ e]; exact ⟨a, b, c, d⟩
theorem cG_mr {I : hI} {ns nl np ml nk nw : Nat} {pl fa fb sl pp pm ki fr tg wh bw : Nat → Nat} {rs sn : Nat → Int32} {fl : Nat → Bool} {qw : Nat → Nat → Nat → Nat → Bool} {k : Nat} {r : Int32} {g1 g2 g3 : Nat → Int32} (hG : cG I ns nl np ml nk nw pl fa fb sl pp pm ki fr tg wh bw rs sn fl qw) (hW2 : netW ns nl pl fa fb sl (upd rs k r)) (e1 : ∀ s, s < ns → g1 s = enc (dist fa fb sl nl s)) (e2 : ∀ s, s < ns → g2 s = lsI fa fb sl (dist fa fb sl nl) nl s) (e3 : ∀ s, s < ns → g3 s = lvl fa fb sl (upd rs k r) nl s) : cG (upA (upA (upA (upI I 6 k r) 8 g1) 9 g2) 10 g3) ns nl np ml nk nw pl fa fb sl pp pm ki fr tg wh bw (upd rs k r) sn fl qw := by
  obtain ⟨⟨⟨hns, hnl, hpl, hlg⟩, -, -, -⟩, hw, hV, hvw, hL⟩ := hG
  refine ⟨⟨⟨hns, hnl, hpl, fun j hj => ?_⟩, e1, e2, e3⟩, hW2, hV, hvw, hL⟩
  obtain ⟨b0, b1, b2, b3⟩ := hlg j hj
  refine ⟨b0, b1, ?_, b3⟩
  show upd (I 6) k r j = upd rs k r j
  by_cases e : j = k
  · subst e; rw [upd_s, upd_s]
  · rw [upd_n _ _ e, upd_n _ _ e]; exact b2
theorem cG_ms {I : hI} {ns nl np ml nk nw : Nat} {pl fa fb sl pp pm ki fr tg wh bw : Nat → Nat} {rs sn : Nat → Int32} {fl : Nat → Bool} {qw : Nat → Nat → Nat → Nat → Bool} {k w : Nat} {g1 g2 g3 : Nat → Int32} (hG : cG I ns nl np ml nk nw pl fa fb sl pp pm ki fr tg wh bw rs sn fl qw) (hW2 : netW ns nl pl fa fb (upn sl k w) rs) (e1 : ∀ s, s < ns → g1 s = enc (dist fa fb (upn sl k w) nl s)) (e2 : ∀ s, s < ns → g2 s = lsI fa fb (upn sl k w) (dist fa fb (upn sl k w) nl) nl s) (e3 : ∀ s, s < ns → g3 s = lvl fa fb (upn sl k w) rs nl s) : cG (upA (upA (upA (upI I 7 k (nI w)) 8 g1) 9 g2) 10 g3) ns nl np ml nk nw pl fa fb (upn sl k w) pp pm ki fr tg wh bw rs sn fl qw := by
  obtain ⟨⟨⟨hns, hnl, hpl, hlg⟩, -, -, -⟩, hw, hV, hvw, hL⟩ := hG
  refine ⟨⟨⟨hns, hnl, hpl, fun j hj => ?_⟩, e1, e2, e3⟩, hW2, hV, hvw, hL⟩
  obtain ⟨b0, b1, b2, b3⟩ := hlg j hj
  refine ⟨b0, b1, b2, ?_⟩
  show upd (I 7) k (nI w) j = nI (upn sl k w j)
  by_cases e : j = k
  · subst e; rw [upd_s, upn_s]
  · rw [upd_n _ _ e, upn_n _ _ e]; exact b3
theorem rG_mr {I : hI} {ns nl np ml nk nw : Nat} {pl fa fb sl pp pm ki fr tg wh bw : Nat → Nat} {rs sn : Nat → Int32} {fl : Nat → Bool} {qw : Nat → Nat → Nat → Nat → Bool} {k : Nat} {r : Int32} (hG : rG I ns nl np ml nk nw pl fa fb sl pp pm ki fr tg wh bw rs sn fl qw) (hW2 : netW ns nl pl fa fb sl (upd rs k r)) : rG (upI I 84 (4 * k + 2) r) ns nl np ml nk nw pl fa fb sl pp pm ki fr tg wh bw (upd rs k r) sn fl qw := by
  obtain ⟨⟨hns, hnl, hpl, hlg⟩, hw, hV, hvw, hL⟩ := hG
  refine ⟨⟨hns, hnl, hpl, fun j hj => ?_⟩, hW2, hV, hvw, hL⟩
  obtain ⟨b0, b1, b2, b3⟩ := hlg j hj
  show upd (I 84) (4 * k + 2) r (4 * j) = _ ∧ upd (I 84) (4 * k + 2) r (4 * j + 1) = _ ∧ upd (I 84) (4 * k + 2) r (4 * j + 2) = _ ∧ upd (I 84) (4 * k + 2) r (4 * j + 3) = _
  refine ⟨by rw [upd_n _ _ (by omega)]; exact b0, by rw [upd_n _ _ (by omega)]; exact b1, ?_, by rw [upd_n _ _ (by omega)]; exact b3⟩
  by_cases e : j = k
  · subst e; rw [upd_s, upd_s]
  · rw [upd_n _ _ (by omega), upd_n _ _ e]; exact b2
theorem rG_ms {I : hI} {ns nl np ml nk nw : Nat} {pl fa fb sl pp pm ki fr tg wh bw : Nat → Nat} {rs sn : Nat → Int32} {fl : Nat → Bool} {qw : Nat → Nat → Nat → Nat → Bool} {k w : Nat} (hG : rG I ns nl np ml nk nw pl fa fb sl pp pm ki fr tg wh bw rs sn fl qw) (hW2 : netW ns nl pl fa fb (upn sl k w) rs) : rG (upI I 84 (4 * k + 3) (nI w)) ns nl np ml nk nw pl fa fb (upn sl k w) pp pm ki fr tg wh bw rs sn fl qw := by
  obtain ⟨⟨hns, hnl, hpl, hlg⟩, hw, hV, hvw, hL⟩ := hG
  refine ⟨⟨hns, hnl, hpl, fun j hj => ?_⟩, hW2, hV, hvw, hL⟩
  obtain ⟨b0, b1, b2, b3⟩ := hlg j hj
  show upd (I 84) (4 * k + 3) (nI w) (4 * j) = _ ∧ upd (I 84) (4 * k + 3) (nI w) (4 * j + 1) = _ ∧ upd (I 84) (4 * k + 3) (nI w) (4 * j + 2) = _ ∧ upd (I 84) (4 * k + 3) (nI w) (4 * j + 3) = _
  refine ⟨by rw [upd_n _ _ (by omega)]; exact b0, by rw [upd_n _ _ (by omega)]; exact b1, by rw [upd_n _ _ (by omega)]; exact b2, ?_⟩
  by_cases e : j = k
  · subst e; rw [upd_s, upn_s]
  · rw [upd_n _ _ (by omega), upn_n _ _ e]; exact b3
theorem viewW_pt {ns np ml nk a m : Nat} {pp pm ki fr tg wh : Nat → Nat} {sn : Nat → Int32} (h : viewW ns np ml nk pp pm ki fr tg wh sn) (h8 : np < 8) (ha : a ≤ 999) (hm : m ≤ 99) : viewW ns (np + 1) ml nk (upn pp np a) (upn pm np m) ki fr tg wh sn := by
  obtain ⟨h1, h2, h3, h4, h5⟩ := h
  refine ⟨by omega, h2, h3, fun p hp => ?_, fun k hk => ?_⟩
  · by_cases e : p = np
    · subst e; rw [upn_s, upn_s]; exact ⟨ha, hm⟩
    · rw [upn_n _ _ e, upn_n _ _ e]; exact h4 p (by omega)
  · obtain ⟨a, b, c, d, e⟩ := h5 k hk
    exact ⟨a, b, c, by omega, e⟩
theorem cG_point {I : hI} {ns nl np ml nk nw : Nat} {pl fa fb sl pp pm ki fr tg wh bw : Nat → Nat} {rs sn : Nat → Int32} {fl : Nat → Bool} {qw : Nat → Nat → Nat → Nat → Bool} {a m : Nat} (hG : cG I ns nl np ml nk nw pl fa fb sl pp pm ki fr tg wh bw rs sn fl qw) (h8 : np < 8) (ha : a ≤ 999) (hm : m ≤ 99) : cG (upI (upI (upI I 18 np (nI a)) 19 np (nI m)) 1 2 (nI (np + 1))) ns nl (np + 1) ml nk nw pl fa fb sl (upn pp np a) (upn pm np m) ki fr tg wh bw rs sn fl qw := by
  obtain ⟨hNF, hw, ⟨hnp, hml, hnk, hpt, hsi, hbt⟩, hvw, hL⟩ := hG
  refine ⟨hNF, hw, ⟨rfl, hml, hnk, fun p hp => ?_, hsi, hbt⟩, viewW_pt hvw h8 ha hm, hL⟩
  show upd (I 18) np (nI a) p = _ ∧ upd (I 19) np (nI m) p = _
  by_cases e : p = np
  · subst e; rw [upd_s, upd_s, upn_s, upn_s]; exact ⟨rfl, rfl⟩
  · rw [upd_n _ _ e, upd_n _ _ e, upn_n _ _ e, upn_n _ _ e]; exact hpt p (by omega)
theorem rG_point {I : hI} {ns nl np ml nk nw : Nat} {pl fa fb sl pp pm ki fr tg wh bw : Nat → Nat} {rs sn : Nat → Int32} {fl : Nat → Bool} {qw : Nat → Nat → Nat → Nat → Bool} {a m : Nat} (hG : rG I ns nl np ml nk nw pl fa fb sl pp pm ki fr tg wh bw rs sn fl qw) (h8 : np < 8) (ha : a ≤ 999) (hm : m ≤ 99) : rG (upI (upI (upI I 85 (2 * np) (nI a)) 85 (2 * np + 1) (nI m)) 82 4 (nI (np + 1))) ns nl (np + 1) ml nk nw pl fa fb sl (upn pp np a) (upn pm np m) ki fr tg wh bw rs sn fl qw := by
  obtain ⟨hN, hw, ⟨hnp, hml, hnk, hpt, hsi⟩, hvw, hL⟩ := hG
  refine ⟨hN, hw, ⟨rfl, hml, hnk, fun p hp => ?_, hsi⟩, viewW_pt hvw h8 ha hm, hL⟩
  show upd (upd (I 85) (2 * np) (nI a)) (2 * np + 1) (nI m) (2 * p) = _ ∧ upd (upd (I 85) (2 * np) (nI a)) (2 * np + 1) (nI m) (2 * p + 1) = _
  by_cases e : p = np
  · subst e
    rw [upn_s, upn_s, upd_n _ _ (by omega), upd_s, upd_s]
    exact ⟨rfl, rfl⟩
  · rw [upn_n _ _ e, upn_n _ _ e, upd_n _ _ (by omega), upd_n _ _ (by omega), upd_n _ _ (by omega), upd_n _ _ (by omega)]
    exact hpt p (by omega)
theorem viewW_ma {ns np ml nk p m : Nat} {pp pm ki fr tg wh : Nat → Nat} {sn : Nat → Int32} (h : viewW ns np ml nk pp pm ki fr tg wh sn) (hm : m ≤ 99) : viewW ns np ml nk pp (upn pm p m) ki fr tg wh sn := by
  obtain ⟨h1, h2, h3, h4, h5⟩ := h
  refine ⟨h1, h2, h3, fun q hq => ⟨(h4 q hq).1, ?_⟩, h5⟩
  by_cases e : q = p
  · subst e; rw [upn_s]; exact hm
  · rw [upn_n _ _ e]; exact (h4 q hq).2
theorem cG_mass {I : hI} {ns nl np ml nk nw : Nat} {pl fa fb sl pp pm ki fr tg wh bw : Nat → Nat} {rs sn : Nat → Int32} {fl : Nat → Bool} {qw : Nat → Nat → Nat → Nat → Bool} {p m : Nat} (hG : cG I ns nl np ml nk nw pl fa fb sl pp pm ki fr tg wh bw rs sn fl qw) (hm : m ≤ 99) : cG (upI I 19 p (nI m)) ns nl np ml nk nw pl fa fb sl pp (upn pm p m) ki fr tg wh bw rs sn fl qw := by
  obtain ⟨hNF, hw, ⟨hnp, hml, hnk, hpt, hsi, hbt⟩, hvw, hL⟩ := hG
  refine ⟨hNF, hw, ⟨hnp, hml, hnk, fun q hq => ⟨(hpt q hq).1, ?_⟩, hsi, hbt⟩, viewW_ma hvw hm, hL⟩
  show upd (I 19) p (nI m) q = nI (upn pm p m q)
  by_cases e : q = p
  · subst e; rw [upd_s, upn_s]
  · rw [upd_n _ _ e, upn_n _ _ e]; exact (hpt q hq).2
theorem rG_mass {I : hI} {ns nl np ml nk nw : Nat} {pl fa fb sl pp pm ki fr tg wh bw : Nat → Nat} {rs sn : Nat → Int32} {fl : Nat → Bool} {qw : Nat → Nat → Nat → Nat → Bool} {p m : Nat} (hG : rG I ns nl np ml nk nw pl fa fb sl pp pm ki fr tg wh bw rs sn fl qw) (hm : m ≤ 99) : rG (upI I 85 (2 * p + 1) (nI m)) ns nl np ml nk nw pl fa fb sl pp (upn pm p m) ki fr tg wh bw rs sn fl qw := by
  obtain ⟨hN, hw, ⟨hnp, hml, hnk, hpt, hsi⟩, hvw, hL⟩ := hG
  refine ⟨hN, hw, ⟨hnp, hml, hnk, fun q hq => ?_, hsi⟩, viewW_ma hvw hm, hL⟩
  show upd (I 85) (2 * p + 1) (nI m) (2 * q) = _ ∧ upd (I 85) (2 * p + 1) (nI m) (2 * q + 1) = _
  rw [upd_n _ _ (by omega)]
  refine ⟨(hpt q hq).1, ?_⟩
  by_cases e : q = p
  · subst e; rw [upd_s, upn_s]
  · rw [upd_n _ _ (by omega), upn_n _ _ e]; exact (hpt q hq).2
theorem cG_masses {I : hI} {ns nl np ml nk nw : Nat} {pl fa fb sl pp pm ki fr tg wh bw : Nat → Nat} {rs sn : Nat → Int32} {fl : Nat → Bool} {qw : Nat → Nat → Nat → Nat → Bool} {m : Nat} (hG : cG I ns nl np ml nk nw pl fa fb sl pp pm ki fr tg wh bw rs sn fl qw) (hm : m ≤ 2) : cG (upI I 1 5 (nI m)) ns nl np m nk nw pl fa fb sl pp pm ki fr tg wh bw rs sn fl qw := by
  obtain ⟨hNF, hw, ⟨hnp, hml, hnk, hpt, hsi, hbt⟩, ⟨h1, h2, h3⟩, hL⟩ := hG
  exact ⟨hNF, hw, ⟨hnp, rfl, hnk, hpt, hsi, hbt⟩, ⟨h1, hm, h3⟩, hL⟩
theorem rG_masses {I : hI} {ns nl np ml nk nw : Nat} {pl fa fb sl pp pm ki fr tg wh bw : Nat → Nat} {rs sn : Nat → Int32} {fl : Nat → Bool} {qw : Nat → Nat → Nat → Nat → Bool} {m : Nat} (hG : rG I ns nl np ml nk nw pl fa fb sl pp pm ki fr tg wh bw rs sn fl qw) (hm : m ≤ 2) : rG (upI I 82 6 (nI m)) ns nl np m nk nw pl fa fb sl pp pm ki fr tg wh bw rs sn fl qw := by
  obtain ⟨hN, hw, ⟨hnp, hml, hnk, hpt, hsi⟩, ⟨h1, h2, h3⟩, hL⟩ := hG
  exact ⟨hN, hw, ⟨hnp, rfl, hnk, hpt, hsi⟩, ⟨h1, hm, h3⟩, hL⟩
def upb (f : Nat → Bool) (k : Nat) (b : Bool) : Nat → Bool := fun j => if j = k then b else f j
theorem upb_id {f : Nat → Bool} {k : Nat} {b : Bool} (h : f k = b) : upb f k b = f := by
  funext j
  unfold upb
  by_cases e : j = k
  · rw [if_pos e, e, h]
  · rw [if_neg e]
theorem cG_fall {I : hI} {ns nl np ml nk nw : Nat} {pl fa fb sl pp pm ki fr tg wh bw : Nat → Nat} {rs sn : Nat → Int32} {fl : Nat → Bool} {qw : Nat → Nat → Nat → Nat → Bool} {k : Nat} {b : Bool} (hG : cG I ns nl np ml nk nw pl fa fb sl pp pm ki fr tg wh bw rs sn fl qw) (hk : k < nk) (hb : fl k = !b) : cG (upI I 1 12 (I 1 12 ^^^ (nI 1 <<< (nI k &&& 31)))) ns nl np ml nk nw pl fa fb sl pp pm ki fr tg wh bw rs sn (upb fl k b) qw := by
  obtain ⟨hNF, hw, ⟨hnp, hml, hnk, hpt, hsi, hbt⟩, hvw, hL⟩ := hG
  have hn24 := hvw.2.2.1
  refine ⟨hNF, hw, ⟨hnp, hml, hnk, hpt, hsi, fun j hj => ?_⟩, hvw, hL⟩
  show (I 1 12 ^^^ (nI 1 <<< (nI k &&& 31))) >>> (nI j &&& 31) &&& nI 1 = nI 1 ↔ upb fl k b j = false
  have q := hbt j hj
  rw [show (1 : Nat) = 1 from rfl, b_test _ (by omega)] at q
  rw [b_test _ (by omega), b_flip _ (by omega) (by omega)]
  by_cases e : j = k
  · subst e
    rw [show upb fl j b j = b from if_pos rfl, decide_eq_true rfl]
    rw [hb] at q
    revert q
    cases b <;> cases bt (I 1 12) j <;> decide
  · rw [show upb fl k b j = fl j from if_neg e, decide_eq_false e]
    revert q
    cases fl j <;> cases bt (I 1 12) j <;> decide
theorem rG_fall {I : hI} {ns nl np ml nk nw : Nat} {pl fa fb sl pp pm ki fr tg wh bw : Nat → Nat} {rs sn : Nat → Int32} {fl : Nat → Bool} {qw : Nat → Nat → Nat → Nat → Bool} {k : Nat} {b : Bool} (hG : rG I ns nl np ml nk nw pl fa fb sl pp pm ki fr tg wh bw rs sn fl qw) : rG (upI I 86 (7 * k + 6) (if b = true then nI 1 else nI 0)) ns nl np ml nk nw pl fa fb sl pp pm ki fr tg wh bw rs sn (upb fl k b) qw := by
  obtain ⟨hN, hw, ⟨hnp, hml, hnk, hpt, hsi⟩, hvw, hL⟩ := hG
  refine ⟨hN, hw, ⟨hnp, hml, hnk, hpt, fun j hj => ?_⟩, hvw, hL⟩
  obtain ⟨a0, a1, a2, a3, a4, a5, a6⟩ := hsi j hj
  refine ⟨?_, ?_, ?_, ?_, ?_, ?_, ?_⟩
  · show upd (I 86) _ _ _ = _; rw [upd_n _ _ (by omega)]; exact a0
  · show upd (I 86) _ _ _ = _; rw [upd_n _ _ (by omega)]; exact a1
  · show upd (I 86) _ _ _ = _; rw [upd_n _ _ (by omega)]; exact a2
  · show upd (I 86) _ _ _ = _; rw [upd_n _ _ (by omega)]; exact a3
  · show upd (I 86) _ _ _ = _; rw [upd_n _ _ (by omega)]; exact a4
  · show upd (I 86) _ _ _ = _; rw [upd_n _ _ (by omega)]; exact a5
  · show upd (I 86) _ _ _ = _
    by_cases e : j = k
    · subst e
      rw [upd_s, show upb fl j b j = b from if_pos rfl]
    · rw [upd_n _ _ (by omega), show upb fl k b j = fl j from if_neg e]; exact a6
