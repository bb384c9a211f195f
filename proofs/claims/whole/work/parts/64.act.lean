/-- the thing on shelf s is of kind k, with SLANT or MASS a -/
def onA (np nk : Nat) (pm ki : Nat → Nat) (sn : Nat → Int32) (sk : Nat → Nat) (sm : Nat → Int32) (s k : Nat) (n a : Int32) : Prop := (k = 6 ∧ ∃ p, p < np ∧ sk s = 1 ∧ sm s = nI p ∧ n = nI p ∧ a = nI (pm p)) ∨ (1 ≤ k ∧ k ≤ 5 ∧ ∃ i, i < nk ∧ sk s = 0 ∧ sm s = nI i ∧ ki i = k ∧ n = nI i ∧ a = sn i)
def noA (nk np : Nat) (sk : Nat → Nat) (sm : Nat → Int32) (s : Nat) : Prop := noT nk np sk sm s ∨ sk s = 2
theorem upI_f {I : hI} {a j i : Nat} {v : Int32} (h : i ≠ j) : upI I a j v a i = I a i := by rw [upI_s, upd_n _ _ h]
theorem ap_c0 {ca cf ff : Nat} (h1 : cf ≠ ca) {l : List Nat} {I : hI} {k : Nat} (hk : l.length = k) (h : I cf ff = nI 0) : ap I ca cf ff 0 l cf ff = nI k := by
  have e := ap_c h1 hk h
  rw [Nat.zero_add] at e
  exact e
theorem big_no {j : Nat} (h : 7 ≤ j) (h2 : j < 2147483648) : ¬ (nI 1 ≤ nI j ∧ nI j ≤ nI 6) := fun z => by
  have q := Int32.le_iff_toInt_le.mp z.2
  rw [nI_toInt (by omega), nI_toInt (by omega)] at q
  omega
theorem c_kindA {l : Launch} {dp : Nat} {ns nl np ml nk nw : Nat} {pl fa fb sl pp pm ki fr tg wh bw : Nat → Nat} {rs sn : Nat → Int32} {fl : Nat → Bool} {qw : Nat → Nat → Nat → Nat → Bool} {I : hI} {J : hJ} {lt tx : Option Nat} {sk : Nat → Nat} {sm sz : Nat → Int32} {s : Nat} {k : Nat} {n a : Int32} {Q : hQ} (hG : cG I ns nl np ml nk nw pl fa fb sl pp pm ki fr tg wh bw rs sn fl qw) (hH : cH I sk sm sz) (hs : s < 4) (hv : onA np nk pm ki sn sk sm s k n a) (hQ : Q (some (.int (nI k))) hSH I J (hRR lt tx)) : HC l mX11_kindOn (dp + 2) 0 0 [.ref 0, .int (nI s)] hSH I J (hRR lt tx) Q := by
  refine c_kindOn hG hH hs (fun e => ?_) (fun i hi e0 e9 => ?_) (fun p hp e0 e9 => ?_) (fun e => ?_)
  · exfalso
    rcases hv with ⟨-, p, hp, e1, e2, -⟩ | ⟨-, -, i, hi, e1, e2, -⟩
    · rcases e with e | e | e
      · omega
      · omega
      · exact e.2 ⟨p, hp, e2⟩
    · rcases e with e | e | e
      · omega
      · exact e.2 ⟨i, hi, e2⟩
      · omega
  · rcases hv with ⟨-, p, hp, e1, e2, -⟩ | ⟨-, -, i', hi', e1, e2, e3, -⟩
    · omega
    · obtain ⟨-, -, -, ⟨-, -, hn24, -, -⟩, -⟩ := hG
      rw [e9, nI_eq (by omega) (by omega)] at e2
      subst e2
      rw [e3]; exact hQ
  · rcases hv with ⟨e4, -⟩ | ⟨-, -, i, hi, e1, -⟩
    · rw [e4] at hQ; exact hQ
    · omega
  · rcases hv with ⟨-, p, hp, e1, -⟩ | ⟨-, -, i, hi, e1, -⟩ <;> omega
theorem c_kindN {l : Launch} {dp : Nat} {ns nl np ml nk nw : Nat} {pl fa fb sl pp pm ki fr tg wh bw : Nat → Nat} {rs sn : Nat → Int32} {fl : Nat → Bool} {qw : Nat → Nat → Nat → Nat → Bool} {I : hI} {J : hJ} {lt tx : Option Nat} {sk : Nat → Nat} {sm sz : Nat → Int32} {s : Nat} {Q : hQ} (hG : cG I ns nl np ml nk nw pl fa fb sl pp pm ki fr tg wh bw rs sn fl qw) (hH : cH I sk sm sz) (hs : s < 4) (hv : noA nk np sk sm s) (hQ : ∀ v, ¬ (nI 1 ≤ v ∧ v ≤ nI 6) → Q (some (.int (v))) hSH I J (hRR lt tx)) : HC l mX11_kindOn (dp + 2) 0 0 [.ref 0, .int (nI s)] hSH I J (hRR lt tx) Q := by
  obtain ⟨w1, w2, w3, w4⟩ := hH s hs
  refine c_kindOn hG hH hs (fun e => ?_) (fun i hi e0 e9 => ?_) (fun p hp e0 e9 => ?_) (fun e => ?_)
  · exact hQ _ (by decide)
  · exfalso
    rcases hv with (e | e | e) | e
    · omega
    · exact e.2 ⟨i, hi, e9⟩
    · omega
    · omega
  · exfalso
    rcases hv with (e | e | e) | e
    · omega
    · omega
    · exact e.2 ⟨p, hp, e9⟩
    · omega
  · obtain ⟨j, hj, e5⟩ := (w4 e).2
    rw [e5, nI_add]
    exact hQ _ (big_no (by omega) (by omega))
theorem r_kindA {l : Launch} {dp : Nat} {ns nl np ml nk nw : Nat} {pl fa fb sl pp pm ki fr tg wh bw : Nat → Nat} {rs sn : Nat → Int32} {fl : Nat → Bool} {qw : Nat → Nat → Nat → Nat → Bool} {I : hI} {J : hJ} {lt tx : Option Nat} {sk : Nat → Nat} {sm sz : Nat → Int32} {s : Nat} {k : Nat} {n a : Int32} {Q : hQ} (hG : rG I ns nl np ml nk nw pl fa fb sl pp pm ki fr tg wh bw rs sn fl qw) (hH : rH I sk sm sz) (hs : s < 4) (hv : onA np nk pm ki sn sk sm s k n a) (hQ : Q (some (.int (nI k))) hSH I J (hRR lt tx)) : HC l mX12_kindOn (dp + 3) 0 0 [.ref 82, .int (nI s)] hSH I J (hRR lt tx) Q := by
  refine r_kindOn hG hH hs (fun e => ?_) (fun i hi e0 e9 => ?_) (fun p hp e0 e9 => ?_) (fun e => ?_)
  · exfalso
    rcases hv with ⟨-, p, hp, e1, e2, -⟩ | ⟨-, -, i, hi, e1, e2, -⟩
    · rcases e with e | e | e
      · omega
      · omega
      · exact e.2 ⟨p, hp, e2⟩
    · rcases e with e | e | e
      · omega
      · exact e.2 ⟨i, hi, e2⟩
      · omega
  · rcases hv with ⟨-, p, hp, e1, e2, -⟩ | ⟨-, -, i', hi', e1, e2, e3, -⟩
    · omega
    · obtain ⟨-, -, -, ⟨-, -, hn24, -, -⟩, -⟩ := hG
      rw [e9, nI_eq (by omega) (by omega)] at e2
      subst e2
      rw [e3]; exact hQ
  · rcases hv with ⟨e4, -⟩ | ⟨-, -, i, hi, e1, -⟩
    · rw [e4] at hQ; exact hQ
    · omega
  · rcases hv with ⟨-, p, hp, e1, -⟩ | ⟨-, -, i, hi, e1, -⟩ <;> omega
theorem r_kindN {l : Launch} {dp : Nat} {ns nl np ml nk nw : Nat} {pl fa fb sl pp pm ki fr tg wh bw : Nat → Nat} {rs sn : Nat → Int32} {fl : Nat → Bool} {qw : Nat → Nat → Nat → Nat → Bool} {I : hI} {J : hJ} {lt tx : Option Nat} {sk : Nat → Nat} {sm sz : Nat → Int32} {s : Nat} {Q : hQ} (hG : rG I ns nl np ml nk nw pl fa fb sl pp pm ki fr tg wh bw rs sn fl qw) (hH : rH I sk sm sz) (hs : s < 4) (hv : noA nk np sk sm s) (hQ : ∀ v, ¬ (nI 1 ≤ v ∧ v ≤ nI 6) → Q (some (.int (v))) hSH I J (hRR lt tx)) : HC l mX12_kindOn (dp + 3) 0 0 [.ref 82, .int (nI s)] hSH I J (hRR lt tx) Q := by
  obtain ⟨w1, w2, w3, w4⟩ := hH s hs
  refine r_kindOn hG hH hs (fun e => ?_) (fun i hi e0 e9 => ?_) (fun p hp e0 e9 => ?_) (fun e => ?_)
  · exact hQ _ (by decide)
  · exfalso
    rcases hv with (e | e | e) | e
    · omega
    · exact e.2 ⟨i, hi, e9⟩
    · omega
    · omega
  · exfalso
    rcases hv with (e | e | e) | e
    · omega
    · omega
    · exact e.2 ⟨p, hp, e9⟩
    · omega
  · exact hQ _ (by decide)
theorem oU_X9_begin_X4 : hOkU mX9_begin 2 4 ⟨"FarHeights$Thing", "begin", "(II)V"⟩ "FarHeights$Thing" := ⟨oX9_begin, k4_99, ⟨by decide +kernel, by decide +kernel, by decide +kernel⟩, k4_100, Or.inr ⟨_, _, _, k4_99, k4_107⟩, _, _, _, rfl, k4_104⟩
theorem c_thing1 {l : Launch} {dp : Nat} {ns nl np ml nk nw : Nat} {pl fa fb sl pp pm ki fr tg wh bw : Nat → Nat} {rs sn : Nat → Int32} {fl : Nat → Bool} {qw : Nat → Nat → Nat → Nat → Bool} {I : hI} {J : hJ} {lt tx : Option Nat} {sk : Nat → Nat} {sm sz : Nat → Int32} {s : Nat} {i : Nat} {Q : hQ} (hG : cG I ns nl np ml nk nw pl fa fb sl pp pm ki fr tg wh bw rs sn fl qw) (hH : cH I sk sm sz) (hs : s < 4) (hi : i < nk) (e0 : sk s = 0) (e9 : sm s = nI i) (ek : ki i = 1) (hQ : Q (some (.ref 70)) hSH (upI (upI (upI (upI I 70 0 (nI i)) 70 1 (sn i)) 70 2 (nI 0)) 70 3 (nI 0)) J (hRR lt tx))  : HC l mX11_thingOn (dp + 3) 0 0 [.ref 0, .int (nI s)] hSH I J (hRR lt tx) Q := by
  refine HC.of (by decide +kernel) rfl (Nat.le_of_ble_eq_true rfl) ?_
  show HV l mX11_thingOn (dp + 3) 0 0 0 [some (.ref 0), some (.int (nI s)), none, none, none] [] hSH I J (hRR lt tx) Q
  obtain ⟨⟨hN, hdo, hla, hlv⟩, hw, ⟨hnp, hml, hnk, hpt, hsi, hbt⟩, ⟨hn8, hm2, hn24, hpW, hsW⟩, hL⟩ := id hG
  obtain ⟨hns, hnl, hpl, hlg⟩ := id hN
  obtain ⟨hn6, hl12, hW, hp99, hr99⟩ := id hw
  obtain ⟨w1, w2, w3, w4⟩ := hH s hs
  refine h_aload_n dX11_thingOn_0 rfl ?_
  refine h_iload_n dX11_thingOn_1 rfl ?_
  refine h_cV1 dX11_thingOn_2 k4_83 oVX11_kindOn rfl rfl ?_
  refine c_kindA (k := 1) hG hH hs (.inr ⟨by omega, by omega, i, hi, e0, e9, ek, rfl, rfl⟩) ?_
  refine h_istore_n dX11_thingOn_5 (Nat.le_of_ble_eq_true rfl) ?_
  refine h_iload_n dX11_thingOn_6 rfl ?_
  refine h_iconst dX11_thingOn_7 ci_1 ?_
  refine h_bipush dX11_thingOn_8 cb_6 ?_
  refine h_cS3 dX11_thingOn_10 k2_154 oSX11_within rfl ?_
  refine c_X11_within (fun b1 => ?_) (fun b1 => ?_)
  · refine h_ifne (tgt := 18) dX11_thingOn_13 rfl (fun _ => ?_) (fun c => absurd c (by decide))
    refine h_aload_n dX11_thingOn_18 rfl ?_
    refine h_getR dX11_thingOn_19 f_X11_75_9 rfl rfl ?_
    refine h_iload_n dX11_thingOn_22 rfl ?_
    refine h_aald (v := .ref 70) dX11_thingOn_23 rfl (by unfold vp_in; decide) (by rw [show (nI 1).toNatClampNeg = 1 by decide]; rfl) ?_
    refine h_astore_n dX11_thingOn_24 (Nat.le_of_ble_eq_true rfl) ?_
    refine h_aload_n dX11_thingOn_25 rfl ?_
    refine h_ifnull dX11_thingOn_26 ?_
    refine h_aload_n dX11_thingOn_29 rfl ?_
    refine h_getR dX11_thingOn_30 f_X11_67_9 rfl rfl ?_
    refine h_iload_n dX11_thingOn_33 rfl ?_
    refine h_ialdN (j := s) dX11_thingOn_34 rfl rfl (by omega) rfl ((w3 (by omega)).trans e9) ?_
    refine h_istore dX11_thingOn_35 (Nat.le_of_ble_eq_true rfl) ?_
    refine h_aload_n dX11_thingOn_37 rfl ?_
    refine h_iload dX11_thingOn_38 rfl ?_
    refine h_iload_n dX11_thingOn_40 rfl ?_
    refine h_bipush dX11_thingOn_41 cb_6 ?_
    refine h_icmpne (tgt := 59) dX11_thingOn_43 rfl (fun _ => ?_) (fun c => absurd c (by decide))
    refine h_aload_n dX11_thingOn_59 rfl ?_
    refine h_getR dX11_thingOn_60 f_X11_10_9 rfl rfl ?_
    refine h_getR dX11_thingOn_63 f_X11_210_8 rfl rfl ?_
    refine h_iload dX11_thingOn_66 rfl ?_
    refine h_ialdN (j := i) dX11_thingOn_68 rfl rfl (by omega) rfl (hsi _ (by omega)).2.2.2.1 ?_
    refine h_cU2 dX11_thingOn_69 k4_98 oU_X9_begin_X4 rfl rfl ?_
    refine c_begin1 ?_
    refine h_aload_n dX11_thingOn_72 rfl ?_
    refine h_areturn dX11_thingOn_73 rfl ?_
    exact hQ
  · exact absurd ⟨by decide, by decide⟩ b1
theorem oU_X9_begin_X6 : hOkU mX9_begin 2 6 ⟨"FarHeights$Thing", "begin", "(II)V"⟩ "FarHeights$Thing" := ⟨oX9_begin, k4_99, ⟨by decide +kernel, by decide +kernel, by decide +kernel⟩, k4_100, Or.inr ⟨_, _, _, k4_99, k4_107⟩, _, _, _, rfl, k4_105⟩
theorem c_thing2 {l : Launch} {dp : Nat} {ns nl np ml nk nw : Nat} {pl fa fb sl pp pm ki fr tg wh bw : Nat → Nat} {rs sn : Nat → Int32} {fl : Nat → Bool} {qw : Nat → Nat → Nat → Nat → Bool} {I : hI} {J : hJ} {lt tx : Option Nat} {sk : Nat → Nat} {sm sz : Nat → Int32} {s : Nat} {i : Nat} {Q : hQ} (hG : cG I ns nl np ml nk nw pl fa fb sl pp pm ki fr tg wh bw rs sn fl qw) (hH : cH I sk sm sz) (hs : s < 4) (hi : i < nk) (e0 : sk s = 0) (e9 : sm s = nI i) (ek : ki i = 2) (hQ : Q (some (.ref 72)) hSH (upI (upI (upI (upI I 72 0 (nI i)) 72 1 (sn i)) 72 2 (nI 0)) 72 3 (nI 0)) J (hRR lt tx))  : HC l mX11_thingOn (dp + 3) 0 0 [.ref 0, .int (nI s)] hSH I J (hRR lt tx) Q := by
  refine HC.of (by decide +kernel) rfl (Nat.le_of_ble_eq_true rfl) ?_
  show HV l mX11_thingOn (dp + 3) 0 0 0 [some (.ref 0), some (.int (nI s)), none, none, none] [] hSH I J (hRR lt tx) Q
  obtain ⟨⟨hN, hdo, hla, hlv⟩, hw, ⟨hnp, hml, hnk, hpt, hsi, hbt⟩, ⟨hn8, hm2, hn24, hpW, hsW⟩, hL⟩ := id hG
  obtain ⟨hns, hnl, hpl, hlg⟩ := id hN
  obtain ⟨hn6, hl12, hW, hp99, hr99⟩ := id hw
  obtain ⟨w1, w2, w3, w4⟩ := hH s hs
  refine h_aload_n dX11_thingOn_0 rfl ?_
  refine h_iload_n dX11_thingOn_1 rfl ?_
  refine h_cV1 dX11_thingOn_2 k4_83 oVX11_kindOn rfl rfl ?_
  refine c_kindA (k := 2) hG hH hs (.inr ⟨by omega, by omega, i, hi, e0, e9, ek, rfl, rfl⟩) ?_
  refine h_istore_n dX11_thingOn_5 (Nat.le_of_ble_eq_true rfl) ?_
  refine h_iload_n dX11_thingOn_6 rfl ?_
  refine h_iconst dX11_thingOn_7 ci_1 ?_
  refine h_bipush dX11_thingOn_8 cb_6 ?_
  refine h_cS3 dX11_thingOn_10 k2_154 oSX11_within rfl ?_
  refine c_X11_within (fun b1 => ?_) (fun b1 => ?_)
  · refine h_ifne (tgt := 18) dX11_thingOn_13 rfl (fun _ => ?_) (fun c => absurd c (by decide))
    refine h_aload_n dX11_thingOn_18 rfl ?_
    refine h_getR dX11_thingOn_19 f_X11_75_9 rfl rfl ?_
    refine h_iload_n dX11_thingOn_22 rfl ?_
    refine h_aald (v := .ref 72) dX11_thingOn_23 rfl (by unfold vp_in; decide) (by rw [show (nI 2).toNatClampNeg = 2 by decide]; rfl) ?_
    refine h_astore_n dX11_thingOn_24 (Nat.le_of_ble_eq_true rfl) ?_
    refine h_aload_n dX11_thingOn_25 rfl ?_
    refine h_ifnull dX11_thingOn_26 ?_
    refine h_aload_n dX11_thingOn_29 rfl ?_
    refine h_getR dX11_thingOn_30 f_X11_67_9 rfl rfl ?_
    refine h_iload_n dX11_thingOn_33 rfl ?_
    refine h_ialdN (j := s) dX11_thingOn_34 rfl rfl (by omega) rfl ((w3 (by omega)).trans e9) ?_
    refine h_istore dX11_thingOn_35 (Nat.le_of_ble_eq_true rfl) ?_
    refine h_aload_n dX11_thingOn_37 rfl ?_
    refine h_iload dX11_thingOn_38 rfl ?_
    refine h_iload_n dX11_thingOn_40 rfl ?_
    refine h_bipush dX11_thingOn_41 cb_6 ?_
    refine h_icmpne (tgt := 59) dX11_thingOn_43 rfl (fun _ => ?_) (fun c => absurd c (by decide))
    refine h_aload_n dX11_thingOn_59 rfl ?_
    refine h_getR dX11_thingOn_60 f_X11_10_9 rfl rfl ?_
    refine h_getR dX11_thingOn_63 f_X11_210_8 rfl rfl ?_
    refine h_iload dX11_thingOn_66 rfl ?_
    refine h_ialdN (j := i) dX11_thingOn_68 rfl rfl (by omega) rfl (hsi _ (by omega)).2.2.2.1 ?_
    refine h_cU2 dX11_thingOn_69 k4_98 oU_X9_begin_X6 rfl rfl ?_
    refine c_begin2 ?_
    refine h_aload_n dX11_thingOn_72 rfl ?_
    refine h_areturn dX11_thingOn_73 rfl ?_
    exact hQ
  · exact absurd ⟨by decide, by decide⟩ b1
theorem oU_X9_begin_X0 : hOkU mX9_begin 2 0 ⟨"FarHeights$Thing", "begin", "(II)V"⟩ "FarHeights$Thing" := ⟨oX9_begin, k4_99, ⟨by decide +kernel, by decide +kernel, by decide +kernel⟩, k4_100, Or.inr ⟨_, _, _, k4_99, k4_107⟩, _, _, _, rfl, k4_101⟩
theorem c_thing3 {l : Launch} {dp : Nat} {ns nl np ml nk nw : Nat} {pl fa fb sl pp pm ki fr tg wh bw : Nat → Nat} {rs sn : Nat → Int32} {fl : Nat → Bool} {qw : Nat → Nat → Nat → Nat → Bool} {I : hI} {J : hJ} {lt tx : Option Nat} {sk : Nat → Nat} {sm sz : Nat → Int32} {s : Nat} {i : Nat} {Q : hQ} (hG : cG I ns nl np ml nk nw pl fa fb sl pp pm ki fr tg wh bw rs sn fl qw) (hH : cH I sk sm sz) (hs : s < 4) (hi : i < nk) (e0 : sk s = 0) (e9 : sm s = nI i) (ek : ki i = 3) (hQ : Q (some (.ref 74)) hSH (upI (upI (upI (upI I 74 0 (nI i)) 74 1 (sn i)) 74 2 (nI 0)) 74 3 (nI 0)) J (hRR lt tx))  : HC l mX11_thingOn (dp + 3) 0 0 [.ref 0, .int (nI s)] hSH I J (hRR lt tx) Q := by
  refine HC.of (by decide +kernel) rfl (Nat.le_of_ble_eq_true rfl) ?_
  show HV l mX11_thingOn (dp + 3) 0 0 0 [some (.ref 0), some (.int (nI s)), none, none, none] [] hSH I J (hRR lt tx) Q
  obtain ⟨⟨hN, hdo, hla, hlv⟩, hw, ⟨hnp, hml, hnk, hpt, hsi, hbt⟩, ⟨hn8, hm2, hn24, hpW, hsW⟩, hL⟩ := id hG
  obtain ⟨hns, hnl, hpl, hlg⟩ := id hN
  obtain ⟨hn6, hl12, hW, hp99, hr99⟩ := id hw
  obtain ⟨w1, w2, w3, w4⟩ := hH s hs
  refine h_aload_n dX11_thingOn_0 rfl ?_
  refine h_iload_n dX11_thingOn_1 rfl ?_
  refine h_cV1 dX11_thingOn_2 k4_83 oVX11_kindOn rfl rfl ?_
  refine c_kindA (k := 3) hG hH hs (.inr ⟨by omega, by omega, i, hi, e0, e9, ek, rfl, rfl⟩) ?_
  refine h_istore_n dX11_thingOn_5 (Nat.le_of_ble_eq_true rfl) ?_
  refine h_iload_n dX11_thingOn_6 rfl ?_
  refine h_iconst dX11_thingOn_7 ci_1 ?_
  refine h_bipush dX11_thingOn_8 cb_6 ?_
  refine h_cS3 dX11_thingOn_10 k2_154 oSX11_within rfl ?_
  refine c_X11_within (fun b1 => ?_) (fun b1 => ?_)
  · refine h_ifne (tgt := 18) dX11_thingOn_13 rfl (fun _ => ?_) (fun c => absurd c (by decide))
    refine h_aload_n dX11_thingOn_18 rfl ?_
    refine h_getR dX11_thingOn_19 f_X11_75_9 rfl rfl ?_
    refine h_iload_n dX11_thingOn_22 rfl ?_
    refine h_aald (v := .ref 74) dX11_thingOn_23 rfl (by unfold vp_in; decide) (by rw [show (nI 3).toNatClampNeg = 3 by decide]; rfl) ?_
    refine h_astore_n dX11_thingOn_24 (Nat.le_of_ble_eq_true rfl) ?_
    refine h_aload_n dX11_thingOn_25 rfl ?_
    refine h_ifnull dX11_thingOn_26 ?_
    refine h_aload_n dX11_thingOn_29 rfl ?_
    refine h_getR dX11_thingOn_30 f_X11_67_9 rfl rfl ?_
    refine h_iload_n dX11_thingOn_33 rfl ?_
    refine h_ialdN (j := s) dX11_thingOn_34 rfl rfl (by omega) rfl ((w3 (by omega)).trans e9) ?_
    refine h_istore dX11_thingOn_35 (Nat.le_of_ble_eq_true rfl) ?_
    refine h_aload_n dX11_thingOn_37 rfl ?_
    refine h_iload dX11_thingOn_38 rfl ?_
    refine h_iload_n dX11_thingOn_40 rfl ?_
    refine h_bipush dX11_thingOn_41 cb_6 ?_
    refine h_icmpne (tgt := 59) dX11_thingOn_43 rfl (fun _ => ?_) (fun c => absurd c (by decide))
    refine h_aload_n dX11_thingOn_59 rfl ?_
    refine h_getR dX11_thingOn_60 f_X11_10_9 rfl rfl ?_
    refine h_getR dX11_thingOn_63 f_X11_210_8 rfl rfl ?_
    refine h_iload dX11_thingOn_66 rfl ?_
    refine h_ialdN (j := i) dX11_thingOn_68 rfl rfl (by omega) rfl (hsi _ (by omega)).2.2.2.1 ?_
    refine h_cU2 dX11_thingOn_69 k4_98 oU_X9_begin_X0 rfl rfl ?_
    refine c_begin3 ?_
    refine h_aload_n dX11_thingOn_72 rfl ?_
    refine h_areturn dX11_thingOn_73 rfl ?_
    exact hQ
  · exact absurd ⟨by decide, by decide⟩ b1
theorem oU_X9_begin_X1 : hOkU mX9_begin 2 1 ⟨"FarHeights$Thing", "begin", "(II)V"⟩ "FarHeights$Thing" := ⟨oX9_begin, k4_99, ⟨by decide +kernel, by decide +kernel, by decide +kernel⟩, k4_100, Or.inr ⟨_, _, _, k4_99, k4_107⟩, _, _, _, rfl, k4_102⟩
theorem c_thing4 {l : Launch} {dp : Nat} {ns nl np ml nk nw : Nat} {pl fa fb sl pp pm ki fr tg wh bw : Nat → Nat} {rs sn : Nat → Int32} {fl : Nat → Bool} {qw : Nat → Nat → Nat → Nat → Bool} {I : hI} {J : hJ} {lt tx : Option Nat} {sk : Nat → Nat} {sm sz : Nat → Int32} {s : Nat} {i : Nat} {Q : hQ} (hG : cG I ns nl np ml nk nw pl fa fb sl pp pm ki fr tg wh bw rs sn fl qw) (hH : cH I sk sm sz) (hs : s < 4) (hi : i < nk) (e0 : sk s = 0) (e9 : sm s = nI i) (ek : ki i = 4) (hQ : Q (some (.ref 76)) hSH (upI (upI (upI (upI I 76 0 (nI i)) 76 1 (sn i)) 76 2 (nI 0)) 76 3 (nI 0)) J (hRR lt tx))  : HC l mX11_thingOn (dp + 3) 0 0 [.ref 0, .int (nI s)] hSH I J (hRR lt tx) Q := by
  refine HC.of (by decide +kernel) rfl (Nat.le_of_ble_eq_true rfl) ?_
  show HV l mX11_thingOn (dp + 3) 0 0 0 [some (.ref 0), some (.int (nI s)), none, none, none] [] hSH I J (hRR lt tx) Q
  obtain ⟨⟨hN, hdo, hla, hlv⟩, hw, ⟨hnp, hml, hnk, hpt, hsi, hbt⟩, ⟨hn8, hm2, hn24, hpW, hsW⟩, hL⟩ := id hG
  obtain ⟨hns, hnl, hpl, hlg⟩ := id hN
  obtain ⟨hn6, hl12, hW, hp99, hr99⟩ := id hw
  obtain ⟨w1, w2, w3, w4⟩ := hH s hs
  refine h_aload_n dX11_thingOn_0 rfl ?_
  refine h_iload_n dX11_thingOn_1 rfl ?_
  refine h_cV1 dX11_thingOn_2 k4_83 oVX11_kindOn rfl rfl ?_
  refine c_kindA (k := 4) hG hH hs (.inr ⟨by omega, by omega, i, hi, e0, e9, ek, rfl, rfl⟩) ?_
  refine h_istore_n dX11_thingOn_5 (Nat.le_of_ble_eq_true rfl) ?_
  refine h_iload_n dX11_thingOn_6 rfl ?_
  refine h_iconst dX11_thingOn_7 ci_1 ?_
  refine h_bipush dX11_thingOn_8 cb_6 ?_
  refine h_cS3 dX11_thingOn_10 k2_154 oSX11_within rfl ?_
  refine c_X11_within (fun b1 => ?_) (fun b1 => ?_)
  · refine h_ifne (tgt := 18) dX11_thingOn_13 rfl (fun _ => ?_) (fun c => absurd c (by decide))
    refine h_aload_n dX11_thingOn_18 rfl ?_
    refine h_getR dX11_thingOn_19 f_X11_75_9 rfl rfl ?_
    refine h_iload_n dX11_thingOn_22 rfl ?_
    refine h_aald (v := .ref 76) dX11_thingOn_23 rfl (by unfold vp_in; decide) (by rw [show (nI 4).toNatClampNeg = 4 by decide]; rfl) ?_
    refine h_astore_n dX11_thingOn_24 (Nat.le_of_ble_eq_true rfl) ?_
    refine h_aload_n dX11_thingOn_25 rfl ?_
    refine h_ifnull dX11_thingOn_26 ?_
    refine h_aload_n dX11_thingOn_29 rfl ?_
    refine h_getR dX11_thingOn_30 f_X11_67_9 rfl rfl ?_
    refine h_iload_n dX11_thingOn_33 rfl ?_
    refine h_ialdN (j := s) dX11_thingOn_34 rfl rfl (by omega) rfl ((w3 (by omega)).trans e9) ?_
    refine h_istore dX11_thingOn_35 (Nat.le_of_ble_eq_true rfl) ?_
    refine h_aload_n dX11_thingOn_37 rfl ?_
    refine h_iload dX11_thingOn_38 rfl ?_
    refine h_iload_n dX11_thingOn_40 rfl ?_
    refine h_bipush dX11_thingOn_41 cb_6 ?_
    refine h_icmpne (tgt := 59) dX11_thingOn_43 rfl (fun _ => ?_) (fun c => absurd c (by decide))
    refine h_aload_n dX11_thingOn_59 rfl ?_
    refine h_getR dX11_thingOn_60 f_X11_10_9 rfl rfl ?_
    refine h_getR dX11_thingOn_63 f_X11_210_8 rfl rfl ?_
    refine h_iload dX11_thingOn_66 rfl ?_
    refine h_ialdN (j := i) dX11_thingOn_68 rfl rfl (by omega) rfl (hsi _ (by omega)).2.2.2.1 ?_
    refine h_cU2 dX11_thingOn_69 k4_98 oU_X9_begin_X1 rfl rfl ?_
    refine c_begin4 ?_
    refine h_aload_n dX11_thingOn_72 rfl ?_
    refine h_areturn dX11_thingOn_73 rfl ?_
    exact hQ
  · exact absurd ⟨by decide, by decide⟩ b1
theorem oU_X9_begin_X2 : hOkU mX9_begin 2 2 ⟨"FarHeights$Thing", "begin", "(II)V"⟩ "FarHeights$Thing" := ⟨oX9_begin, k4_99, ⟨by decide +kernel, by decide +kernel, by decide +kernel⟩, k4_100, Or.inr ⟨_, _, _, k4_99, k4_107⟩, _, _, _, rfl, k4_103⟩
theorem c_thing5 {l : Launch} {dp : Nat} {ns nl np ml nk nw : Nat} {pl fa fb sl pp pm ki fr tg wh bw : Nat → Nat} {rs sn : Nat → Int32} {fl : Nat → Bool} {qw : Nat → Nat → Nat → Nat → Bool} {I : hI} {J : hJ} {lt tx : Option Nat} {sk : Nat → Nat} {sm sz : Nat → Int32} {s : Nat} {i : Nat} {Q : hQ} (hG : cG I ns nl np ml nk nw pl fa fb sl pp pm ki fr tg wh bw rs sn fl qw) (hH : cH I sk sm sz) (hs : s < 4) (hi : i < nk) (e0 : sk s = 0) (e9 : sm s = nI i) (ek : ki i = 5) (hQ : Q (some (.ref 78)) hSH (upI (upI (upI (upI I 78 0 (nI i)) 78 1 (sn i)) 78 2 (nI 0)) 78 3 (nI 0)) J (hRR lt tx))  : HC l mX11_thingOn (dp + 3) 0 0 [.ref 0, .int (nI s)] hSH I J (hRR lt tx) Q := by
  refine HC.of (by decide +kernel) rfl (Nat.le_of_ble_eq_true rfl) ?_
  show HV l mX11_thingOn (dp + 3) 0 0 0 [some (.ref 0), some (.int (nI s)), none, none, none] [] hSH I J (hRR lt tx) Q
  obtain ⟨⟨hN, hdo, hla, hlv⟩, hw, ⟨hnp, hml, hnk, hpt, hsi, hbt⟩, ⟨hn8, hm2, hn24, hpW, hsW⟩, hL⟩ := id hG
  obtain ⟨hns, hnl, hpl, hlg⟩ := id hN
  obtain ⟨hn6, hl12, hW, hp99, hr99⟩ := id hw
  obtain ⟨w1, w2, w3, w4⟩ := hH s hs
  refine h_aload_n dX11_thingOn_0 rfl ?_
  refine h_iload_n dX11_thingOn_1 rfl ?_
  refine h_cV1 dX11_thingOn_2 k4_83 oVX11_kindOn rfl rfl ?_
  refine c_kindA (k := 5) hG hH hs (.inr ⟨by omega, by omega, i, hi, e0, e9, ek, rfl, rfl⟩) ?_
  refine h_istore_n dX11_thingOn_5 (Nat.le_of_ble_eq_true rfl) ?_
  refine h_iload_n dX11_thingOn_6 rfl ?_
  refine h_iconst dX11_thingOn_7 ci_1 ?_
  refine h_bipush dX11_thingOn_8 cb_6 ?_
  refine h_cS3 dX11_thingOn_10 k2_154 oSX11_within rfl ?_
  refine c_X11_within (fun b1 => ?_) (fun b1 => ?_)
  · refine h_ifne (tgt := 18) dX11_thingOn_13 rfl (fun _ => ?_) (fun c => absurd c (by decide))
    refine h_aload_n dX11_thingOn_18 rfl ?_
    refine h_getR dX11_thingOn_19 f_X11_75_9 rfl rfl ?_
    refine h_iload_n dX11_thingOn_22 rfl ?_
    refine h_aald (v := .ref 78) dX11_thingOn_23 rfl (by unfold vp_in; decide) (by rw [show (nI 5).toNatClampNeg = 5 by decide]; rfl) ?_
    refine h_astore_n dX11_thingOn_24 (Nat.le_of_ble_eq_true rfl) ?_
    refine h_aload_n dX11_thingOn_25 rfl ?_
    refine h_ifnull dX11_thingOn_26 ?_
    refine h_aload_n dX11_thingOn_29 rfl ?_
    refine h_getR dX11_thingOn_30 f_X11_67_9 rfl rfl ?_
    refine h_iload_n dX11_thingOn_33 rfl ?_
    refine h_ialdN (j := s) dX11_thingOn_34 rfl rfl (by omega) rfl ((w3 (by omega)).trans e9) ?_
    refine h_istore dX11_thingOn_35 (Nat.le_of_ble_eq_true rfl) ?_
    refine h_aload_n dX11_thingOn_37 rfl ?_
    refine h_iload dX11_thingOn_38 rfl ?_
    refine h_iload_n dX11_thingOn_40 rfl ?_
    refine h_bipush dX11_thingOn_41 cb_6 ?_
    refine h_icmpne (tgt := 59) dX11_thingOn_43 rfl (fun _ => ?_) (fun c => absurd c (by decide))
    refine h_aload_n dX11_thingOn_59 rfl ?_
    refine h_getR dX11_thingOn_60 f_X11_10_9 rfl rfl ?_
    refine h_getR dX11_thingOn_63 f_X11_210_8 rfl rfl ?_
    refine h_iload dX11_thingOn_66 rfl ?_
    refine h_ialdN (j := i) dX11_thingOn_68 rfl rfl (by omega) rfl (hsi _ (by omega)).2.2.2.1 ?_
    refine h_cU2 dX11_thingOn_69 k4_98 oU_X9_begin_X2 rfl rfl ?_
    refine c_begin5 ?_
    refine h_aload_n dX11_thingOn_72 rfl ?_
    refine h_areturn dX11_thingOn_73 rfl ?_
    exact hQ
  · exact absurd ⟨by decide, by decide⟩ b1
theorem oU_X9_begin_X7 : hOkU mX9_begin 2 7 ⟨"FarHeights$Thing", "begin", "(II)V"⟩ "FarHeights$Thing" := ⟨oX9_begin, k4_99, ⟨by decide +kernel, by decide +kernel, by decide +kernel⟩, k4_100, Or.inr ⟨_, _, _, k4_99, k4_107⟩, _, _, _, rfl, k4_106⟩
theorem c_thing6 {l : Launch} {dp : Nat} {ns nl np ml nk nw : Nat} {pl fa fb sl pp pm ki fr tg wh bw : Nat → Nat} {rs sn : Nat → Int32} {fl : Nat → Bool} {qw : Nat → Nat → Nat → Nat → Bool} {I : hI} {J : hJ} {lt tx : Option Nat} {sk : Nat → Nat} {sm sz : Nat → Int32} {s : Nat} {p : Nat} {Q : hQ} (hG : cG I ns nl np ml nk nw pl fa fb sl pp pm ki fr tg wh bw rs sn fl qw) (hH : cH I sk sm sz) (hs : s < 4) (hp : p < np) (e0 : sk s = 1) (e9 : sm s = nI p) (hQ : Q (some (.ref 80)) hSH (upI (upI (upI (upI I 80 0 (nI p)) 80 1 (nI (pm p))) 80 2 (nI 0)) 80 3 (nI 0)) J (hRR lt tx))  : HC l mX11_thingOn (dp + 3) 0 0 [.ref 0, .int (nI s)] hSH I J (hRR lt tx) Q := by
  refine HC.of (by decide +kernel) rfl (Nat.le_of_ble_eq_true rfl) ?_
  show HV l mX11_thingOn (dp + 3) 0 0 0 [some (.ref 0), some (.int (nI s)), none, none, none] [] hSH I J (hRR lt tx) Q
  obtain ⟨⟨hN, hdo, hla, hlv⟩, hw, ⟨hnp, hml, hnk, hpt, hsi, hbt⟩, ⟨hn8, hm2, hn24, hpW, hsW⟩, hL⟩ := id hG
  obtain ⟨hns, hnl, hpl, hlg⟩ := id hN
  obtain ⟨hn6, hl12, hW, hp99, hr99⟩ := id hw
  obtain ⟨w1, w2, w3, w4⟩ := hH s hs
  refine h_aload_n dX11_thingOn_0 rfl ?_
  refine h_iload_n dX11_thingOn_1 rfl ?_
  refine h_cV1 dX11_thingOn_2 k4_83 oVX11_kindOn rfl rfl ?_
  refine c_kindA (k := 6) hG hH hs (.inl ⟨rfl, p, hp, e0, e9, rfl, rfl⟩) ?_
  refine h_istore_n dX11_thingOn_5 (Nat.le_of_ble_eq_true rfl) ?_
  refine h_iload_n dX11_thingOn_6 rfl ?_
  refine h_iconst dX11_thingOn_7 ci_1 ?_
  refine h_bipush dX11_thingOn_8 cb_6 ?_
  refine h_cS3 dX11_thingOn_10 k2_154 oSX11_within rfl ?_
  refine c_X11_within (fun b1 => ?_) (fun b1 => ?_)
  · refine h_ifne (tgt := 18) dX11_thingOn_13 rfl (fun _ => ?_) (fun c => absurd c (by decide))
    refine h_aload_n dX11_thingOn_18 rfl ?_
    refine h_getR dX11_thingOn_19 f_X11_75_9 rfl rfl ?_
    refine h_iload_n dX11_thingOn_22 rfl ?_
    refine h_aald (v := .ref 80) dX11_thingOn_23 rfl (by unfold vp_in; decide) (by rw [show (nI 6).toNatClampNeg = 6 by decide]; rfl) ?_
    refine h_astore_n dX11_thingOn_24 (Nat.le_of_ble_eq_true rfl) ?_
    refine h_aload_n dX11_thingOn_25 rfl ?_
    refine h_ifnull dX11_thingOn_26 ?_
    refine h_aload_n dX11_thingOn_29 rfl ?_
    refine h_getR dX11_thingOn_30 f_X11_67_9 rfl rfl ?_
    refine h_iload_n dX11_thingOn_33 rfl ?_
    refine h_ialdN (j := s) dX11_thingOn_34 rfl rfl (by omega) rfl ((w3 (by omega)).trans e9) ?_
    refine h_istore dX11_thingOn_35 (Nat.le_of_ble_eq_true rfl) ?_
    refine h_aload_n dX11_thingOn_37 rfl ?_
    refine h_iload dX11_thingOn_38 rfl ?_
    refine h_iload_n dX11_thingOn_40 rfl ?_
    refine h_bipush dX11_thingOn_41 cb_6 ?_
    refine h_icmpne (tgt := 59) dX11_thingOn_43 rfl (fun c => absurd (by decide) c) (fun _ => ?_)
    refine h_aload_n dX11_thingOn_46 rfl ?_
    refine h_getR dX11_thingOn_47 f_X11_10_9 rfl rfl ?_
    refine h_getR dX11_thingOn_50 f_X11_176_8 rfl rfl ?_
    refine h_iload dX11_thingOn_53 rfl ?_
    refine h_ialdN (j := p) dX11_thingOn_55 rfl rfl (by omega) rfl (hpt _ (by omega)).2 ?_
    refine h_goto (tgt := 69) dX11_thingOn_56 rfl ?_
    refine h_cU2 dX11_thingOn_69 k4_98 oU_X9_begin_X7 rfl rfl ?_
    refine c_begin6 ?_
    refine h_aload_n dX11_thingOn_72 rfl ?_
    refine h_areturn dX11_thingOn_73 rfl ?_
    exact hQ
  · exact absurd ⟨by decide, by decide⟩ b1
theorem c_thingN {l : Launch} {dp : Nat} {ns nl np ml nk nw : Nat} {pl fa fb sl pp pm ki fr tg wh bw : Nat → Nat} {rs sn : Nat → Int32} {fl : Nat → Bool} {qw : Nat → Nat → Nat → Nat → Bool} {I : hI} {J : hJ} {lt tx : Option Nat} {sk : Nat → Nat} {sm sz : Nat → Int32} {s : Nat} {Q : hQ} (hG : cG I ns nl np ml nk nw pl fa fb sl pp pm ki fr tg wh bw rs sn fl qw) (hH : cH I sk sm sz) (hs : s < 4) (hv : noA nk np sk sm s) (hQ : Q (some .null) hSH I J (hRR lt tx))  : HC l mX11_thingOn (dp + 3) 0 0 [.ref 0, .int (nI s)] hSH I J (hRR lt tx) Q := by
  refine HC.of (by decide +kernel) rfl (Nat.le_of_ble_eq_true rfl) ?_
  show HV l mX11_thingOn (dp + 3) 0 0 0 [some (.ref 0), some (.int (nI s)), none, none, none] [] hSH I J (hRR lt tx) Q
  obtain ⟨⟨hN, hdo, hla, hlv⟩, hw, ⟨hnp, hml, hnk, hpt, hsi, hbt⟩, ⟨hn8, hm2, hn24, hpW, hsW⟩, hL⟩ := id hG
  obtain ⟨hns, hnl, hpl, hlg⟩ := id hN
  obtain ⟨hn6, hl12, hW, hp99, hr99⟩ := id hw
  refine h_aload_n dX11_thingOn_0 rfl ?_
  refine h_iload_n dX11_thingOn_1 rfl ?_
  refine h_cV1 dX11_thingOn_2 k4_83 oVX11_kindOn rfl rfl ?_
  refine c_kindN hG hH hs hv (fun v hv2 => ?_)
  refine h_istore_n dX11_thingOn_5 (Nat.le_of_ble_eq_true rfl) ?_
  refine h_iload_n dX11_thingOn_6 rfl ?_
  refine h_iconst dX11_thingOn_7 ci_1 ?_
  refine h_bipush dX11_thingOn_8 cb_6 ?_
  refine h_cS3 dX11_thingOn_10 k2_154 oSX11_within rfl ?_
  refine c_X11_within (fun b1 => ?_) (fun b1 => ?_)
  · exact absurd b1 hv2
  · refine h_ifne (tgt := 18) dX11_thingOn_13 rfl (fun c => absurd (by decide) c) (fun _ => ?_)
    refine h_null dX11_thingOn_16 ?_
    refine h_areturnN dX11_thingOn_17 rfl ?_
    exact hQ
theorem oU_X9_sees_X4 : hOkU mX8_sees 1 4 ⟨"FarHeights$Thing", "sees", "(I)I"⟩ "FarHeights$Thing" := ⟨oX8_sees, k4_112, ⟨by decide +kernel, by decide +kernel, by decide +kernel⟩, k4_110, Or.inl k4_109, _, _, _, rfl, k4_127⟩
theorem c_act10 {l : Launch} {dp : Nat} {ns nl np ml nk nw : Nat} {pl fa fb sl pp pm ki fr tg wh bw : Nat → Nat} {rs sn : Nat → Int32} {fl : Nat → Bool} {qw : Nat → Nat → Nat → Nat → Bool} {I : hI} {J : hJ} {lt tx : Option Nat} {sk : Nat → Nat} {sm sz : Nat → Int32} {s : Nat} {i : Nat} {z : Int32} {Q : hQ} (hG : cG I ns nl np ml nk nw pl fa fb sl pp pm ki fr tg wh bw rs sn fl qw) (hH : cH I sk sm sz) (hs : s < 4) (hi : i < nk) (e0 : sk s = 0) (e9 : sm s = nI i) (ek : ki i = 1) (hQ : ∀ I', AC I I' → I' 70 2 = nI 1 → (∀ i, i < 1 → I' 71 i = nI (List.getD [10] i 0)) → Q (some (.int ((z + (sn i))))) hSH I' J (hRR (some 70) tx))  : HC l mX11_act (dp + 7) 0 0 [.ref 0, .int (nI s), .int (nI 0), .int z] hSH I J (hRR lt tx) Q := by
  refine HC.of (by decide +kernel) rfl (Nat.le_of_ble_eq_true rfl) ?_
  show HV l mX11_act (dp + 7) 0 0 0 [some (.ref 0), some (.int (nI s)), some (.int (nI 0)), some (.int z), none, none] [] hSH I J (hRR lt tx) Q
  obtain ⟨⟨hN, hdo, hla, hlv⟩, hw, ⟨hnp, hml, hnk, hpt, hsi, hbt⟩, ⟨hn8, hm2, hn24, hpW, hsW⟩, hL⟩ := id hG
  obtain ⟨hns, hnl, hpl, hlg⟩ := id hN
  obtain ⟨hn6, hl12, hW, hp99, hr99⟩ := id hw
  refine h_aload_n dX11_act_0 rfl ?_
  refine h_null dX11_act_1 ?_
  refine h_putN dX11_act_2 f_X11_79_9 p_X11_9_17 (fun h => by cases h) rfl ?_
  rw [hRR_lt]
  refine h_iload_n dX11_act_5 rfl ?_
  refine h_cS1 dX11_act_6 k4_72 oSX11_isShelf rfl ?_
  refine c_X11_isShelf (fun b1 => ?_) (fun b1 => ?_)
  · refine h_ifeq (tgt := 21) dX11_act_9 rfl (fun c => absurd c (by decide)) (fun _ => ?_)
    refine h_iload_n dX11_act_12 rfl ?_
    refine h_iconst dX11_act_13 ci_0 ?_
    refine h_iconst dX11_act_14 ci_3 ?_
    refine h_cS3 dX11_act_15 k2_154 oSX11_within rfl ?_
    refine c_X11_within (fun b2 => ?_) (fun b2 => ?_)
    · refine h_ifne (tgt := 23) dX11_act_18 rfl (fun _ => ?_) (fun c => absurd c (by decide))
      refine h_aload_n dX11_act_23 rfl ?_
      refine h_iload_n dX11_act_24 rfl ?_
      refine h_cV1 dX11_act_25 k4_94 oVX11_thingOn rfl rfl ?_
      refine c_thing1 (I := I) hG hH hs hi e0 e9 ek ?_
      refine h_astore dX11_act_28 (Nat.le_of_ble_eq_true rfl) ?_
      refine h_aload dX11_act_30 rfl ?_
      refine h_ifnonnull (tgt := 37) dX11_act_32 rfl ?_
      refine h_aload_n dX11_act_37 rfl ?_
      refine h_aload dX11_act_38 rfl ?_
      refine h_putR dX11_act_40 f_X11_79_9 p_X11_9_17 (fun h => by cases h) rfl ?_
      rw [hRR_lt]
      refine h_iload_n dX11_act_43 rfl ?_
      refine h_tableIn (off := 28) (tgt := 72) dX11_act_44 (by decide) (by decide) (by decide) rfl ?_
      refine h_aload dX11_act_72 rfl ?_
      refine h_iload_n dX11_act_74 rfl ?_
      refine h_cU1 dX11_act_75 k4_108 oU_X9_sees_X4 rfl rfl ?_
      refine t1_X8_sees (n := nI i) (a := sn i) (j := 0) rfl rfl rfl (by omega) ?_
      refine h_istore dX11_act_78 (Nat.le_of_ble_eq_true rfl) ?_
      refine h_goto (tgt := 113) dX11_act_80 rfl ?_
      refine h_aload dX11_act_113 rfl ?_
      refine h_getZ dX11_act_115 f_X11_343_4 rfl (show _ = nI 0 from ap_n (by decide) (by decide) rfl) ?_
      refine h_ifeq (tgt := 126) dX11_act_118 rfl (fun _ => ?_) (fun c => absurd (by decide) c)
      refine h_iload dX11_act_126 rfl ?_
      refine h_ireturn dX11_act_128 rfl ?_
      exact hQ _ (AC_of (fun x hx => by
        have h1 : x ≠ 71 := by omega
        have h2 : x ≠ 70 := by omega
        simp [upI, h1, h2, ap_o h1 h2])) (ap_c0 (by decide) rfl rfl) (fun i0 hi => ap_g0 (by decide) hi)
    · exact absurd ⟨by decide, by decide⟩ b2
  · exact absurd ⟨by rw [nI_leI (by omega) (by omega)]; omega, by rw [nI_leI (by omega) (by omega)]; omega⟩ b1
theorem oU_X9_bends_X4 : hOkU mX4_bends 1 4 ⟨"FarHeights$Thing", "bends", "(I)I"⟩ "FarHeights$Thing" := ⟨oX4_bends, k4_140, ⟨by decide +kernel, by decide +kernel, by decide +kernel⟩, k4_134, Or.inl k4_133, _, _, _, rfl, k4_150⟩
theorem c_act11 {l : Launch} {dp : Nat} {ns nl np ml nk nw : Nat} {pl fa fb sl pp pm ki fr tg wh bw : Nat → Nat} {rs sn : Nat → Int32} {fl : Nat → Bool} {qw : Nat → Nat → Nat → Nat → Bool} {I : hI} {J : hJ} {lt tx : Option Nat} {sk : Nat → Nat} {sm sz : Nat → Int32} {s : Nat} {i : Nat} {z : Int32} {Q : hQ} (hG : cG I ns nl np ml nk nw pl fa fb sl pp pm ki fr tg wh bw rs sn fl qw) (hH : cH I sk sm sz) (hs : s < 4) (hi : i < nk) (e0 : sk s = 0) (e9 : sm s = nI i) (ek : ki i = 1) (hQ : ∀ I', AC I I' → I' 70 2 = nI 3 → (∀ i, i < 3 → I' 71 i = nI (List.getD [20, 11, 10] i 0)) → Q (some (.int (((z + (sn i)) * nI 2 + nI 7)))) hSH I' J (hRR (some 70) tx))  : HC l mX11_act (dp + 7) 0 0 [.ref 0, .int (nI s), .int (nI 1), .int z] hSH I J (hRR lt tx) Q := by
  refine HC.of (by decide +kernel) rfl (Nat.le_of_ble_eq_true rfl) ?_
  show HV l mX11_act (dp + 7) 0 0 0 [some (.ref 0), some (.int (nI s)), some (.int (nI 1)), some (.int z), none, none] [] hSH I J (hRR lt tx) Q
  obtain ⟨⟨hN, hdo, hla, hlv⟩, hw, ⟨hnp, hml, hnk, hpt, hsi, hbt⟩, ⟨hn8, hm2, hn24, hpW, hsW⟩, hL⟩ := id hG
  obtain ⟨hns, hnl, hpl, hlg⟩ := id hN
  obtain ⟨hn6, hl12, hW, hp99, hr99⟩ := id hw
  refine h_aload_n dX11_act_0 rfl ?_
  refine h_null dX11_act_1 ?_
  refine h_putN dX11_act_2 f_X11_79_9 p_X11_9_17 (fun h => by cases h) rfl ?_
  rw [hRR_lt]
  refine h_iload_n dX11_act_5 rfl ?_
  refine h_cS1 dX11_act_6 k4_72 oSX11_isShelf rfl ?_
  refine c_X11_isShelf (fun b1 => ?_) (fun b1 => ?_)
  · refine h_ifeq (tgt := 21) dX11_act_9 rfl (fun c => absurd c (by decide)) (fun _ => ?_)
    refine h_iload_n dX11_act_12 rfl ?_
    refine h_iconst dX11_act_13 ci_0 ?_
    refine h_iconst dX11_act_14 ci_3 ?_
    refine h_cS3 dX11_act_15 k2_154 oSX11_within rfl ?_
    refine c_X11_within (fun b2 => ?_) (fun b2 => ?_)
    · refine h_ifne (tgt := 23) dX11_act_18 rfl (fun _ => ?_) (fun c => absurd c (by decide))
      refine h_aload_n dX11_act_23 rfl ?_
      refine h_iload_n dX11_act_24 rfl ?_
      refine h_cV1 dX11_act_25 k4_94 oVX11_thingOn rfl rfl ?_
      refine c_thing1 (I := I) hG hH hs hi e0 e9 ek ?_
      refine h_astore dX11_act_28 (Nat.le_of_ble_eq_true rfl) ?_
      refine h_aload dX11_act_30 rfl ?_
      refine h_ifnonnull (tgt := 37) dX11_act_32 rfl ?_
      refine h_aload_n dX11_act_37 rfl ?_
      refine h_aload dX11_act_38 rfl ?_
      refine h_putR dX11_act_40 f_X11_79_9 p_X11_9_17 (fun h => by cases h) rfl ?_
      rw [hRR_lt]
      refine h_iload_n dX11_act_43 rfl ?_
      refine h_tableIn (off := 39) (tgt := 83) dX11_act_44 (by decide) (by decide) (by decide) rfl ?_
      refine h_aload dX11_act_83 rfl ?_
      refine h_iload_n dX11_act_85 rfl ?_
      refine h_cU1 dX11_act_86 k4_132 oU_X9_bends_X4 rfl rfl ?_
      refine t1_X4_bends (n := nI i) (a := sn i) (j := 0) rfl rfl rfl (by omega) ?_
      refine h_istore dX11_act_89 (Nat.le_of_ble_eq_true rfl) ?_
      refine h_goto (tgt := 113) dX11_act_91 rfl ?_
      refine h_aload dX11_act_113 rfl ?_
      refine h_getZ dX11_act_115 f_X11_343_4 rfl (show _ = nI 0 from ap_n (by decide) (by decide) rfl) ?_
      refine h_ifeq (tgt := 126) dX11_act_118 rfl (fun _ => ?_) (fun c => absurd (by decide) c)
      refine h_iload dX11_act_126 rfl ?_
      refine h_ireturn dX11_act_128 rfl ?_
      exact hQ _ (AC_of (fun x hx => by
        have h1 : x ≠ 71 := by omega
        have h2 : x ≠ 70 := by omega
        simp [upI, h1, h2, ap_o h1 h2])) (ap_c0 (by decide) rfl rfl) (fun i0 hi => ap_g0 (by decide) hi)
    · exact absurd ⟨by decide, by decide⟩ b2
  · exact absurd ⟨by rw [nI_leI (by omega) (by omega)]; omega, by rw [nI_leI (by omega) (by omega)]; omega⟩ b1
theorem oU_X9_leans_X4 : hOkU mX8_leans 1 4 ⟨"FarHeights$Thing", "leans", "(I)I"⟩ "FarHeights$Thing" := ⟨oX8_leans, k4_163, ⟨by decide +kernel, by decide +kernel, by decide +kernel⟩, k4_158, Or.inl k4_157, _, _, _, rfl, k4_167⟩
theorem c_act12 {l : Launch} {dp : Nat} {ns nl np ml nk nw : Nat} {pl fa fb sl pp pm ki fr tg wh bw : Nat → Nat} {rs sn : Nat → Int32} {fl : Nat → Bool} {qw : Nat → Nat → Nat → Nat → Bool} {I : hI} {J : hJ} {lt tx : Option Nat} {sk : Nat → Nat} {sm sz : Nat → Int32} {s : Nat} {i : Nat} {z : Int32} {Q : hQ} (hG : cG I ns nl np ml nk nw pl fa fb sl pp pm ki fr tg wh bw rs sn fl qw) (hH : cH I sk sm sz) (hs : s < 4) (hi : i < nk) (e0 : sk s = 0) (e9 : sm s = nI i) (ek : ki i = 1) (hQ : ∀ I', AC I I' → I' 70 2 = nI 1 → (∀ i, i < 1 → I' 71 i = nI (List.getD [12] i 0)) → Q (some (.int (cif (sn i = nI i) (-15) (z / ((sn i) - (nI i)))))) hSH I' J (hRR (some 70) tx))  : HC l mX11_act (dp + 7) 0 0 [.ref 0, .int (nI s), .int (nI 2), .int z] hSH I J (hRR lt tx) Q := by
  refine HC.of (by decide +kernel) rfl (Nat.le_of_ble_eq_true rfl) ?_
  show HV l mX11_act (dp + 7) 0 0 0 [some (.ref 0), some (.int (nI s)), some (.int (nI 2)), some (.int z), none, none] [] hSH I J (hRR lt tx) Q
  obtain ⟨⟨hN, hdo, hla, hlv⟩, hw, ⟨hnp, hml, hnk, hpt, hsi, hbt⟩, ⟨hn8, hm2, hn24, hpW, hsW⟩, hL⟩ := id hG
  obtain ⟨hns, hnl, hpl, hlg⟩ := id hN
  obtain ⟨hn6, hl12, hW, hp99, hr99⟩ := id hw
  refine h_aload_n dX11_act_0 rfl ?_
  refine h_null dX11_act_1 ?_
  refine h_putN dX11_act_2 f_X11_79_9 p_X11_9_17 (fun h => by cases h) rfl ?_
  rw [hRR_lt]
  refine h_iload_n dX11_act_5 rfl ?_
  refine h_cS1 dX11_act_6 k4_72 oSX11_isShelf rfl ?_
  refine c_X11_isShelf (fun b1 => ?_) (fun b1 => ?_)
  · refine h_ifeq (tgt := 21) dX11_act_9 rfl (fun c => absurd c (by decide)) (fun _ => ?_)
    refine h_iload_n dX11_act_12 rfl ?_
    refine h_iconst dX11_act_13 ci_0 ?_
    refine h_iconst dX11_act_14 ci_3 ?_
    refine h_cS3 dX11_act_15 k2_154 oSX11_within rfl ?_
    refine c_X11_within (fun b2 => ?_) (fun b2 => ?_)
    · refine h_ifne (tgt := 23) dX11_act_18 rfl (fun _ => ?_) (fun c => absurd c (by decide))
      refine h_aload_n dX11_act_23 rfl ?_
      refine h_iload_n dX11_act_24 rfl ?_
      refine h_cV1 dX11_act_25 k4_94 oVX11_thingOn rfl rfl ?_
      refine c_thing1 (I := I) hG hH hs hi e0 e9 ek ?_
      refine h_astore dX11_act_28 (Nat.le_of_ble_eq_true rfl) ?_
      refine h_aload dX11_act_30 rfl ?_
      refine h_ifnonnull (tgt := 37) dX11_act_32 rfl ?_
      refine h_aload_n dX11_act_37 rfl ?_
      refine h_aload dX11_act_38 rfl ?_
      refine h_putR dX11_act_40 f_X11_79_9 p_X11_9_17 (fun h => by cases h) rfl ?_
      rw [hRR_lt]
      refine h_iload_n dX11_act_43 rfl ?_
      refine h_tableIn (off := 50) (tgt := 94) dX11_act_44 (by decide) (by decide) (by decide) rfl ?_
      refine h_aload dX11_act_94 rfl ?_
      refine h_iload_n dX11_act_96 rfl ?_
      refine h_cU1 dX11_act_97 k4_156 oU_X9_leans_X4 rfl rfl ?_
      refine t1_X8_leans (n := nI i) (a := sn i) (j := 0) rfl rfl rfl (by omega) (fun v0 hz => ?_) (fun hz => ?_)
      · refine h_istore dX11_act_100 (Nat.le_of_ble_eq_true rfl) ?_
        refine h_goto (tgt := 113) dX11_act_102 rfl ?_
        refine h_aload dX11_act_113 rfl ?_
        refine h_getZ dX11_act_115 f_X11_343_4 rfl (show _ = nI 1 from rfl) ?_
        refine h_ifeq (tgt := 126) dX11_act_118 rfl (fun c => absurd c (by decide)) (fun _ => ?_)
        refine h_bipush dX11_act_121 cb_m15 ?_
        refine h_goto (tgt := 128) dX11_act_123 rfl ?_
        refine h_ireturn dX11_act_128 rfl ?_
        rw [cif_t hz] at hQ
        exact hQ _ (AC_of (fun x hx => by
          have h1 : x ≠ 71 := by omega
          have h2 : x ≠ 70 := by omega
          simp [upI, h1, h2, ap_o h1 h2])) ((upI_f (by decide)).trans (ap_c0 (by decide) rfl rfl)) (fun i0 hi => (congrFun (upI_n _ _ _ (by decide)) i0).trans (ap_g0 (by decide) hi))
      · refine h_istore dX11_act_100 (Nat.le_of_ble_eq_true rfl) ?_
        refine h_goto (tgt := 113) dX11_act_102 rfl ?_
        refine h_aload dX11_act_113 rfl ?_
        refine h_getZ dX11_act_115 f_X11_343_4 rfl (show _ = nI 0 from ap_n (by decide) (by decide) rfl) ?_
        refine h_ifeq (tgt := 126) dX11_act_118 rfl (fun _ => ?_) (fun c => absurd (by decide) c)
        refine h_iload dX11_act_126 rfl ?_
        refine h_ireturn dX11_act_128 rfl ?_
        rw [cif_f hz] at hQ
        exact hQ _ (AC_of (fun x hx => by
          have h1 : x ≠ 71 := by omega
          have h2 : x ≠ 70 := by omega
          simp [upI, h1, h2, ap_o h1 h2])) (ap_c0 (by decide) rfl rfl) (fun i0 hi => ap_g0 (by decide) hi)
    · exact absurd ⟨by decide, by decide⟩ b2
  · exact absurd ⟨by rw [nI_leI (by omega) (by omega)]; omega, by rw [nI_leI (by omega) (by omega)]; omega⟩ b1
theorem oU_X9_tells_X4 : hOkU mX8_tells 1 4 ⟨"FarHeights$Thing", "tells", "(I)I"⟩ "FarHeights$Thing" := ⟨oX8_tells, k4_176, ⟨by decide +kernel, by decide +kernel, by decide +kernel⟩, k4_174, Or.inl k4_173, _, _, _, rfl, k4_190⟩
theorem c_act13 {l : Launch} {dp : Nat} {ns nl np ml nk nw : Nat} {pl fa fb sl pp pm ki fr tg wh bw : Nat → Nat} {rs sn : Nat → Int32} {fl : Nat → Bool} {qw : Nat → Nat → Nat → Nat → Bool} {I : hI} {J : hJ} {lt tx : Option Nat} {sk : Nat → Nat} {sm sz : Nat → Int32} {s : Nat} {i : Nat} {z : Int32} {Q : hQ} (hG : cG I ns nl np ml nk nw pl fa fb sl pp pm ki fr tg wh bw rs sn fl qw) (hH : cH I sk sm sz) (hs : s < 4) (hi : i < nk) (e0 : sk s = 0) (e9 : sm s = nI i) (ek : ki i = 1) (hQ : ∀ I', AC I I' → I' 70 2 = nI 4 → (∀ i, i < 4 → I' 71 i = nI (List.getD [13, 20, 11, 10] i 0)) → Q (some (.int ((((z + (sn i)) * nI 2 + nI 7) ^^^ (nI i))))) hSH I' J (hRR (some 70) tx))  : HC l mX11_act (dp + 7) 0 0 [.ref 0, .int (nI s), .int (nI 3), .int z] hSH I J (hRR lt tx) Q := by
  refine HC.of (by decide +kernel) rfl (Nat.le_of_ble_eq_true rfl) ?_
  show HV l mX11_act (dp + 7) 0 0 0 [some (.ref 0), some (.int (nI s)), some (.int (nI 3)), some (.int z), none, none] [] hSH I J (hRR lt tx) Q
  obtain ⟨⟨hN, hdo, hla, hlv⟩, hw, ⟨hnp, hml, hnk, hpt, hsi, hbt⟩, ⟨hn8, hm2, hn24, hpW, hsW⟩, hL⟩ := id hG
  obtain ⟨hns, hnl, hpl, hlg⟩ := id hN
  obtain ⟨hn6, hl12, hW, hp99, hr99⟩ := id hw
  refine h_aload_n dX11_act_0 rfl ?_
  refine h_null dX11_act_1 ?_
  refine h_putN dX11_act_2 f_X11_79_9 p_X11_9_17 (fun h => by cases h) rfl ?_
  rw [hRR_lt]
  refine h_iload_n dX11_act_5 rfl ?_
  refine h_cS1 dX11_act_6 k4_72 oSX11_isShelf rfl ?_
  refine c_X11_isShelf (fun b1 => ?_) (fun b1 => ?_)
  · refine h_ifeq (tgt := 21) dX11_act_9 rfl (fun c => absurd c (by decide)) (fun _ => ?_)
    refine h_iload_n dX11_act_12 rfl ?_
    refine h_iconst dX11_act_13 ci_0 ?_
    refine h_iconst dX11_act_14 ci_3 ?_
    refine h_cS3 dX11_act_15 k2_154 oSX11_within rfl ?_
    refine c_X11_within (fun b2 => ?_) (fun b2 => ?_)
    · refine h_ifne (tgt := 23) dX11_act_18 rfl (fun _ => ?_) (fun c => absurd c (by decide))
      refine h_aload_n dX11_act_23 rfl ?_
      refine h_iload_n dX11_act_24 rfl ?_
      refine h_cV1 dX11_act_25 k4_94 oVX11_thingOn rfl rfl ?_
      refine c_thing1 (I := I) hG hH hs hi e0 e9 ek ?_
      refine h_astore dX11_act_28 (Nat.le_of_ble_eq_true rfl) ?_
      refine h_aload dX11_act_30 rfl ?_
      refine h_ifnonnull (tgt := 37) dX11_act_32 rfl ?_
      refine h_aload_n dX11_act_37 rfl ?_
      refine h_aload dX11_act_38 rfl ?_
      refine h_putR dX11_act_40 f_X11_79_9 p_X11_9_17 (fun h => by cases h) rfl ?_
      rw [hRR_lt]
      refine h_iload_n dX11_act_43 rfl ?_
      refine h_tableOut (tgt := 105) dX11_act_44 (by decide) rfl ?_
      refine h_aload dX11_act_105 rfl ?_
      refine h_iload_n dX11_act_107 rfl ?_
      refine h_cU1 dX11_act_108 k4_172 oU_X9_tells_X4 rfl rfl ?_
      refine t1_X8_tells (n := nI i) (a := sn i) (j := 0) rfl rfl rfl (by omega) ?_
      refine h_istore dX11_act_111 (Nat.le_of_ble_eq_true rfl) ?_
      refine h_aload dX11_act_113 rfl ?_
      refine h_getZ dX11_act_115 f_X11_343_4 rfl (show _ = nI 0 from ap_n (by decide) (by decide) rfl) ?_
      refine h_ifeq (tgt := 126) dX11_act_118 rfl (fun _ => ?_) (fun c => absurd (by decide) c)
      refine h_iload dX11_act_126 rfl ?_
      refine h_ireturn dX11_act_128 rfl ?_
      exact hQ _ (AC_of (fun x hx => by
        have h1 : x ≠ 71 := by omega
        have h2 : x ≠ 70 := by omega
        simp [upI, h1, h2, ap_o h1 h2])) (ap_c0 (by decide) rfl rfl) (fun i0 hi => ap_g0 (by decide) hi)
    · exact absurd ⟨by decide, by decide⟩ b2
  · exact absurd ⟨by rw [nI_leI (by omega) (by omega)]; omega, by rw [nI_leI (by omega) (by omega)]; omega⟩ b1
theorem oU_X9_sees_X6 : hOkU mX6_sees 1 6 ⟨"FarHeights$Thing", "sees", "(I)I"⟩ "FarHeights$Thing" := ⟨oX6_sees, k4_124, ⟨by decide +kernel, by decide +kernel, by decide +kernel⟩, k4_110, Or.inl k4_109, _, _, _, rfl, k4_128⟩
theorem c_act20 {l : Launch} {dp : Nat} {ns nl np ml nk nw : Nat} {pl fa fb sl pp pm ki fr tg wh bw : Nat → Nat} {rs sn : Nat → Int32} {fl : Nat → Bool} {qw : Nat → Nat → Nat → Nat → Bool} {I : hI} {J : hJ} {lt tx : Option Nat} {sk : Nat → Nat} {sm sz : Nat → Int32} {s : Nat} {i : Nat} {z : Int32} {Q : hQ} (hG : cG I ns nl np ml nk nw pl fa fb sl pp pm ki fr tg wh bw rs sn fl qw) (hH : cH I sk sm sz) (hs : s < 4) (hi : i < nk) (e0 : sk s = 0) (e9 : sm s = nI i) (ek : ki i = 2) (hQ : ∀ I', AC I I' → I' 72 2 = nI 2 → (∀ i, i < 2 → I' 73 i = nI (List.getD [30, 10] i 0)) → Q (some (.int ((z + (sn i) - (nI i))))) hSH I' J (hRR (some 72) tx))  : HC l mX11_act (dp + 7) 0 0 [.ref 0, .int (nI s), .int (nI 0), .int z] hSH I J (hRR lt tx) Q := by
  refine HC.of (by decide +kernel) rfl (Nat.le_of_ble_eq_true rfl) ?_
  show HV l mX11_act (dp + 7) 0 0 0 [some (.ref 0), some (.int (nI s)), some (.int (nI 0)), some (.int z), none, none] [] hSH I J (hRR lt tx) Q
  obtain ⟨⟨hN, hdo, hla, hlv⟩, hw, ⟨hnp, hml, hnk, hpt, hsi, hbt⟩, ⟨hn8, hm2, hn24, hpW, hsW⟩, hL⟩ := id hG
  obtain ⟨hns, hnl, hpl, hlg⟩ := id hN
  obtain ⟨hn6, hl12, hW, hp99, hr99⟩ := id hw
  refine h_aload_n dX11_act_0 rfl ?_
  refine h_null dX11_act_1 ?_
  refine h_putN dX11_act_2 f_X11_79_9 p_X11_9_17 (fun h => by cases h) rfl ?_
  rw [hRR_lt]
  refine h_iload_n dX11_act_5 rfl ?_
  refine h_cS1 dX11_act_6 k4_72 oSX11_isShelf rfl ?_
  refine c_X11_isShelf (fun b1 => ?_) (fun b1 => ?_)
  · refine h_ifeq (tgt := 21) dX11_act_9 rfl (fun c => absurd c (by decide)) (fun _ => ?_)
    refine h_iload_n dX11_act_12 rfl ?_
    refine h_iconst dX11_act_13 ci_0 ?_
    refine h_iconst dX11_act_14 ci_3 ?_
    refine h_cS3 dX11_act_15 k2_154 oSX11_within rfl ?_
    refine c_X11_within (fun b2 => ?_) (fun b2 => ?_)
    · refine h_ifne (tgt := 23) dX11_act_18 rfl (fun _ => ?_) (fun c => absurd c (by decide))
      refine h_aload_n dX11_act_23 rfl ?_
      refine h_iload_n dX11_act_24 rfl ?_
      refine h_cV1 dX11_act_25 k4_94 oVX11_thingOn rfl rfl ?_
      refine c_thing2 (I := I) hG hH hs hi e0 e9 ek ?_
      refine h_astore dX11_act_28 (Nat.le_of_ble_eq_true rfl) ?_
      refine h_aload dX11_act_30 rfl ?_
      refine h_ifnonnull (tgt := 37) dX11_act_32 rfl ?_
      refine h_aload_n dX11_act_37 rfl ?_
      refine h_aload dX11_act_38 rfl ?_
      refine h_putR dX11_act_40 f_X11_79_9 p_X11_9_17 (fun h => by cases h) rfl ?_
      rw [hRR_lt]
      refine h_iload_n dX11_act_43 rfl ?_
      refine h_tableIn (off := 28) (tgt := 72) dX11_act_44 (by decide) (by decide) (by decide) rfl ?_
      refine h_aload dX11_act_72 rfl ?_
      refine h_iload_n dX11_act_74 rfl ?_
      refine h_cU1 dX11_act_75 k4_108 oU_X9_sees_X6 rfl rfl ?_
      refine t2_X6_sees (n := nI i) (a := sn i) (j := 0) rfl rfl rfl (by omega) ?_
      refine h_istore dX11_act_78 (Nat.le_of_ble_eq_true rfl) ?_
      refine h_goto (tgt := 113) dX11_act_80 rfl ?_
      refine h_aload dX11_act_113 rfl ?_
      refine h_getZ dX11_act_115 f_X11_343_6 rfl (show _ = nI 0 from ap_n (by decide) (by decide) rfl) ?_
      refine h_ifeq (tgt := 126) dX11_act_118 rfl (fun _ => ?_) (fun c => absurd (by decide) c)
      refine h_iload dX11_act_126 rfl ?_
      refine h_ireturn dX11_act_128 rfl ?_
      exact hQ _ (AC_of (fun x hx => by
        have h1 : x ≠ 73 := by omega
        have h2 : x ≠ 72 := by omega
        simp [upI, h1, h2, ap_o h1 h2])) (ap_c0 (by decide) rfl rfl) (fun i0 hi => ap_g0 (by decide) hi)
    · exact absurd ⟨by decide, by decide⟩ b2
  · exact absurd ⟨by rw [nI_leI (by omega) (by omega)]; omega, by rw [nI_leI (by omega) (by omega)]; omega⟩ b1
theorem oU_X9_bends_X6 : hOkU mX8_bends 1 6 ⟨"FarHeights$Thing", "bends", "(I)I"⟩ "FarHeights$Thing" := ⟨oX8_bends, k4_136, ⟨by decide +kernel, by decide +kernel, by decide +kernel⟩, k4_134, Or.inl k4_133, _, _, _, rfl, k4_151⟩
theorem c_act21 {l : Launch} {dp : Nat} {ns nl np ml nk nw : Nat} {pl fa fb sl pp pm ki fr tg wh bw : Nat → Nat} {rs sn : Nat → Int32} {fl : Nat → Bool} {qw : Nat → Nat → Nat → Nat → Bool} {I : hI} {J : hJ} {lt tx : Option Nat} {sk : Nat → Nat} {sm sz : Nat → Int32} {s : Nat} {i : Nat} {z : Int32} {Q : hQ} (hG : cG I ns nl np ml nk nw pl fa fb sl pp pm ki fr tg wh bw rs sn fl qw) (hH : cH I sk sm sz) (hs : s < 4) (hi : i < nk) (e0 : sk s = 0) (e9 : sm s = nI i) (ek : ki i = 2) (hQ : ∀ I', AC I I' → I' 72 2 = nI 3 → (∀ i, i < 3 → I' 73 i = nI (List.getD [11, 30, 10] i 0)) → Q (some (.int (((z + (sn i) - (nI i)) * nI 2)))) hSH I' J (hRR (some 72) tx))  : HC l mX11_act (dp + 7) 0 0 [.ref 0, .int (nI s), .int (nI 1), .int z] hSH I J (hRR lt tx) Q := by
  refine HC.of (by decide +kernel) rfl (Nat.le_of_ble_eq_true rfl) ?_
  show HV l mX11_act (dp + 7) 0 0 0 [some (.ref 0), some (.int (nI s)), some (.int (nI 1)), some (.int z), none, none] [] hSH I J (hRR lt tx) Q
  obtain ⟨⟨hN, hdo, hla, hlv⟩, hw, ⟨hnp, hml, hnk, hpt, hsi, hbt⟩, ⟨hn8, hm2, hn24, hpW, hsW⟩, hL⟩ := id hG
  obtain ⟨hns, hnl, hpl, hlg⟩ := id hN
  obtain ⟨hn6, hl12, hW, hp99, hr99⟩ := id hw
  refine h_aload_n dX11_act_0 rfl ?_
  refine h_null dX11_act_1 ?_
  refine h_putN dX11_act_2 f_X11_79_9 p_X11_9_17 (fun h => by cases h) rfl ?_
  rw [hRR_lt]
  refine h_iload_n dX11_act_5 rfl ?_
  refine h_cS1 dX11_act_6 k4_72 oSX11_isShelf rfl ?_
  refine c_X11_isShelf (fun b1 => ?_) (fun b1 => ?_)
  · refine h_ifeq (tgt := 21) dX11_act_9 rfl (fun c => absurd c (by decide)) (fun _ => ?_)
    refine h_iload_n dX11_act_12 rfl ?_
    refine h_iconst dX11_act_13 ci_0 ?_
    refine h_iconst dX11_act_14 ci_3 ?_
    refine h_cS3 dX11_act_15 k2_154 oSX11_within rfl ?_
    refine c_X11_within (fun b2 => ?_) (fun b2 => ?_)
    · refine h_ifne (tgt := 23) dX11_act_18 rfl (fun _ => ?_) (fun c => absurd c (by decide))
      refine h_aload_n dX11_act_23 rfl ?_
      refine h_iload_n dX11_act_24 rfl ?_
      refine h_cV1 dX11_act_25 k4_94 oVX11_thingOn rfl rfl ?_
      refine c_thing2 (I := I) hG hH hs hi e0 e9 ek ?_
      refine h_astore dX11_act_28 (Nat.le_of_ble_eq_true rfl) ?_
      refine h_aload dX11_act_30 rfl ?_
      refine h_ifnonnull (tgt := 37) dX11_act_32 rfl ?_
      refine h_aload_n dX11_act_37 rfl ?_
      refine h_aload dX11_act_38 rfl ?_
      refine h_putR dX11_act_40 f_X11_79_9 p_X11_9_17 (fun h => by cases h) rfl ?_
      rw [hRR_lt]
      refine h_iload_n dX11_act_43 rfl ?_
      refine h_tableIn (off := 39) (tgt := 83) dX11_act_44 (by decide) (by decide) (by decide) rfl ?_
      refine h_aload dX11_act_83 rfl ?_
      refine h_iload_n dX11_act_85 rfl ?_
      refine h_cU1 dX11_act_86 k4_132 oU_X9_bends_X6 rfl rfl ?_
      refine t2_X8_bends (n := nI i) (a := sn i) (j := 0) rfl rfl rfl (by omega) ?_
      refine h_istore dX11_act_89 (Nat.le_of_ble_eq_true rfl) ?_
      refine h_goto (tgt := 113) dX11_act_91 rfl ?_
      refine h_aload dX11_act_113 rfl ?_
      refine h_getZ dX11_act_115 f_X11_343_6 rfl (show _ = nI 0 from ap_n (by decide) (by decide) rfl) ?_
      refine h_ifeq (tgt := 126) dX11_act_118 rfl (fun _ => ?_) (fun c => absurd (by decide) c)
      refine h_iload dX11_act_126 rfl ?_
      refine h_ireturn dX11_act_128 rfl ?_
      exact hQ _ (AC_of (fun x hx => by
        have h1 : x ≠ 73 := by omega
        have h2 : x ≠ 72 := by omega
        simp [upI, h1, h2, ap_o h1 h2])) (ap_c0 (by decide) rfl rfl) (fun i0 hi => ap_g0 (by decide) hi)
    · exact absurd ⟨by decide, by decide⟩ b2
  · exact absurd ⟨by rw [nI_leI (by omega) (by omega)]; omega, by rw [nI_leI (by omega) (by omega)]; omega⟩ b1
theorem oU_X9_leans_X6 : hOkU mX8_leans 1 6 ⟨"FarHeights$Thing", "leans", "(I)I"⟩ "FarHeights$Thing" := ⟨oX8_leans, k4_163, ⟨by decide +kernel, by decide +kernel, by decide +kernel⟩, k4_158, Or.inl k4_157, _, _, _, rfl, k4_168⟩
theorem c_act22 {l : Launch} {dp : Nat} {ns nl np ml nk nw : Nat} {pl fa fb sl pp pm ki fr tg wh bw : Nat → Nat} {rs sn : Nat → Int32} {fl : Nat → Bool} {qw : Nat → Nat → Nat → Nat → Bool} {I : hI} {J : hJ} {lt tx : Option Nat} {sk : Nat → Nat} {sm sz : Nat → Int32} {s : Nat} {i : Nat} {z : Int32} {Q : hQ} (hG : cG I ns nl np ml nk nw pl fa fb sl pp pm ki fr tg wh bw rs sn fl qw) (hH : cH I sk sm sz) (hs : s < 4) (hi : i < nk) (e0 : sk s = 0) (e9 : sm s = nI i) (ek : ki i = 2) (hQ : ∀ I', AC I I' → I' 72 2 = nI 1 → (∀ i, i < 1 → I' 73 i = nI (List.getD [12] i 0)) → Q (some (.int (cif (sn i = nI i) (-15) (z / ((sn i) - (nI i)))))) hSH I' J (hRR (some 72) tx))  : HC l mX11_act (dp + 7) 0 0 [.ref 0, .int (nI s), .int (nI 2), .int z] hSH I J (hRR lt tx) Q := by
  refine HC.of (by decide +kernel) rfl (Nat.le_of_ble_eq_true rfl) ?_
  show HV l mX11_act (dp + 7) 0 0 0 [some (.ref 0), some (.int (nI s)), some (.int (nI 2)), some (.int z), none, none] [] hSH I J (hRR lt tx) Q
  obtain ⟨⟨hN, hdo, hla, hlv⟩, hw, ⟨hnp, hml, hnk, hpt, hsi, hbt⟩, ⟨hn8, hm2, hn24, hpW, hsW⟩, hL⟩ := id hG
  obtain ⟨hns, hnl, hpl, hlg⟩ := id hN
  obtain ⟨hn6, hl12, hW, hp99, hr99⟩ := id hw
  refine h_aload_n dX11_act_0 rfl ?_
  refine h_null dX11_act_1 ?_
  refine h_putN dX11_act_2 f_X11_79_9 p_X11_9_17 (fun h => by cases h) rfl ?_
  rw [hRR_lt]
  refine h_iload_n dX11_act_5 rfl ?_
  refine h_cS1 dX11_act_6 k4_72 oSX11_isShelf rfl ?_
  refine c_X11_isShelf (fun b1 => ?_) (fun b1 => ?_)
  · refine h_ifeq (tgt := 21) dX11_act_9 rfl (fun c => absurd c (by decide)) (fun _ => ?_)
    refine h_iload_n dX11_act_12 rfl ?_
    refine h_iconst dX11_act_13 ci_0 ?_
    refine h_iconst dX11_act_14 ci_3 ?_
    refine h_cS3 dX11_act_15 k2_154 oSX11_within rfl ?_
    refine c_X11_within (fun b2 => ?_) (fun b2 => ?_)
    · refine h_ifne (tgt := 23) dX11_act_18 rfl (fun _ => ?_) (fun c => absurd c (by decide))
      refine h_aload_n dX11_act_23 rfl ?_
      refine h_iload_n dX11_act_24 rfl ?_
      refine h_cV1 dX11_act_25 k4_94 oVX11_thingOn rfl rfl ?_
      refine c_thing2 (I := I) hG hH hs hi e0 e9 ek ?_
      refine h_astore dX11_act_28 (Nat.le_of_ble_eq_true rfl) ?_
      refine h_aload dX11_act_30 rfl ?_
      refine h_ifnonnull (tgt := 37) dX11_act_32 rfl ?_
      refine h_aload_n dX11_act_37 rfl ?_
      refine h_aload dX11_act_38 rfl ?_
      refine h_putR dX11_act_40 f_X11_79_9 p_X11_9_17 (fun h => by cases h) rfl ?_
      rw [hRR_lt]
      refine h_iload_n dX11_act_43 rfl ?_
      refine h_tableIn (off := 50) (tgt := 94) dX11_act_44 (by decide) (by decide) (by decide) rfl ?_
      refine h_aload dX11_act_94 rfl ?_
      refine h_iload_n dX11_act_96 rfl ?_
      refine h_cU1 dX11_act_97 k4_156 oU_X9_leans_X6 rfl rfl ?_
      refine t2_X8_leans (n := nI i) (a := sn i) (j := 0) rfl rfl rfl (by omega) (fun v0 hz => ?_) (fun hz => ?_)
      · refine h_istore dX11_act_100 (Nat.le_of_ble_eq_true rfl) ?_
        refine h_goto (tgt := 113) dX11_act_102 rfl ?_
        refine h_aload dX11_act_113 rfl ?_
        refine h_getZ dX11_act_115 f_X11_343_6 rfl (show _ = nI 1 from rfl) ?_
        refine h_ifeq (tgt := 126) dX11_act_118 rfl (fun c => absurd c (by decide)) (fun _ => ?_)
        refine h_bipush dX11_act_121 cb_m15 ?_
        refine h_goto (tgt := 128) dX11_act_123 rfl ?_
        refine h_ireturn dX11_act_128 rfl ?_
        rw [cif_t hz] at hQ
        exact hQ _ (AC_of (fun x hx => by
          have h1 : x ≠ 73 := by omega
          have h2 : x ≠ 72 := by omega
          simp [upI, h1, h2, ap_o h1 h2])) ((upI_f (by decide)).trans (ap_c0 (by decide) rfl rfl)) (fun i0 hi => (congrFun (upI_n _ _ _ (by decide)) i0).trans (ap_g0 (by decide) hi))
      · refine h_istore dX11_act_100 (Nat.le_of_ble_eq_true rfl) ?_
        refine h_goto (tgt := 113) dX11_act_102 rfl ?_
        refine h_aload dX11_act_113 rfl ?_
        refine h_getZ dX11_act_115 f_X11_343_6 rfl (show _ = nI 0 from ap_n (by decide) (by decide) rfl) ?_
        refine h_ifeq (tgt := 126) dX11_act_118 rfl (fun _ => ?_) (fun c => absurd (by decide) c)
        refine h_iload dX11_act_126 rfl ?_
        refine h_ireturn dX11_act_128 rfl ?_
        rw [cif_f hz] at hQ
        exact hQ _ (AC_of (fun x hx => by
          have h1 : x ≠ 73 := by omega
          have h2 : x ≠ 72 := by omega
          simp [upI, h1, h2, ap_o h1 h2])) (ap_c0 (by decide) rfl rfl) (fun i0 hi => ap_g0 (by decide) hi)
    · exact absurd ⟨by decide, by decide⟩ b2
  · exact absurd ⟨by rw [nI_leI (by omega) (by omega)]; omega, by rw [nI_leI (by omega) (by omega)]; omega⟩ b1
theorem oU_X9_tells_X6 : hOkU mX8_tells 1 6 ⟨"FarHeights$Thing", "tells", "(I)I"⟩ "FarHeights$Thing" := ⟨oX8_tells, k4_176, ⟨by decide +kernel, by decide +kernel, by decide +kernel⟩, k4_174, Or.inl k4_173, _, _, _, rfl, k4_191⟩
theorem c_act23 {l : Launch} {dp : Nat} {ns nl np ml nk nw : Nat} {pl fa fb sl pp pm ki fr tg wh bw : Nat → Nat} {rs sn : Nat → Int32} {fl : Nat → Bool} {qw : Nat → Nat → Nat → Nat → Bool} {I : hI} {J : hJ} {lt tx : Option Nat} {sk : Nat → Nat} {sm sz : Nat → Int32} {s : Nat} {i : Nat} {z : Int32} {Q : hQ} (hG : cG I ns nl np ml nk nw pl fa fb sl pp pm ki fr tg wh bw rs sn fl qw) (hH : cH I sk sm sz) (hs : s < 4) (hi : i < nk) (e0 : sk s = 0) (e9 : sm s = nI i) (ek : ki i = 2) (hQ : ∀ I', AC I I' → I' 72 2 = nI 4 → (∀ i, i < 4 → I' 73 i = nI (List.getD [13, 11, 30, 10] i 0)) → Q (some (.int ((((z + (sn i) - (nI i)) * nI 2) ^^^ (nI i))))) hSH I' J (hRR (some 72) tx))  : HC l mX11_act (dp + 7) 0 0 [.ref 0, .int (nI s), .int (nI 3), .int z] hSH I J (hRR lt tx) Q := by
  refine HC.of (by decide +kernel) rfl (Nat.le_of_ble_eq_true rfl) ?_
  show HV l mX11_act (dp + 7) 0 0 0 [some (.ref 0), some (.int (nI s)), some (.int (nI 3)), some (.int z), none, none] [] hSH I J (hRR lt tx) Q
  obtain ⟨⟨hN, hdo, hla, hlv⟩, hw, ⟨hnp, hml, hnk, hpt, hsi, hbt⟩, ⟨hn8, hm2, hn24, hpW, hsW⟩, hL⟩ := id hG
  obtain ⟨hns, hnl, hpl, hlg⟩ := id hN
  obtain ⟨hn6, hl12, hW, hp99, hr99⟩ := id hw
  refine h_aload_n dX11_act_0 rfl ?_
  refine h_null dX11_act_1 ?_
  refine h_putN dX11_act_2 f_X11_79_9 p_X11_9_17 (fun h => by cases h) rfl ?_
  rw [hRR_lt]
  refine h_iload_n dX11_act_5 rfl ?_
  refine h_cS1 dX11_act_6 k4_72 oSX11_isShelf rfl ?_
  refine c_X11_isShelf (fun b1 => ?_) (fun b1 => ?_)
  · refine h_ifeq (tgt := 21) dX11_act_9 rfl (fun c => absurd c (by decide)) (fun _ => ?_)
    refine h_iload_n dX11_act_12 rfl ?_
    refine h_iconst dX11_act_13 ci_0 ?_
    refine h_iconst dX11_act_14 ci_3 ?_
    refine h_cS3 dX11_act_15 k2_154 oSX11_within rfl ?_
    refine c_X11_within (fun b2 => ?_) (fun b2 => ?_)
    · refine h_ifne (tgt := 23) dX11_act_18 rfl (fun _ => ?_) (fun c => absurd c (by decide))
      refine h_aload_n dX11_act_23 rfl ?_
      refine h_iload_n dX11_act_24 rfl ?_
      refine h_cV1 dX11_act_25 k4_94 oVX11_thingOn rfl rfl ?_
      refine c_thing2 (I := I) hG hH hs hi e0 e9 ek ?_
      refine h_astore dX11_act_28 (Nat.le_of_ble_eq_true rfl) ?_
      refine h_aload dX11_act_30 rfl ?_
      refine h_ifnonnull (tgt := 37) dX11_act_32 rfl ?_
      refine h_aload_n dX11_act_37 rfl ?_
      refine h_aload dX11_act_38 rfl ?_
      refine h_putR dX11_act_40 f_X11_79_9 p_X11_9_17 (fun h => by cases h) rfl ?_
      rw [hRR_lt]
      refine h_iload_n dX11_act_43 rfl ?_
      refine h_tableOut (tgt := 105) dX11_act_44 (by decide) rfl ?_
      refine h_aload dX11_act_105 rfl ?_
      refine h_iload_n dX11_act_107 rfl ?_
      refine h_cU1 dX11_act_108 k4_172 oU_X9_tells_X6 rfl rfl ?_
      refine t2_X8_tells (n := nI i) (a := sn i) (j := 0) rfl rfl rfl (by omega) ?_
      refine h_istore dX11_act_111 (Nat.le_of_ble_eq_true rfl) ?_
      refine h_aload dX11_act_113 rfl ?_
      refine h_getZ dX11_act_115 f_X11_343_6 rfl (show _ = nI 0 from ap_n (by decide) (by decide) rfl) ?_
      refine h_ifeq (tgt := 126) dX11_act_118 rfl (fun _ => ?_) (fun c => absurd (by decide) c)
      refine h_iload dX11_act_126 rfl ?_
      refine h_ireturn dX11_act_128 rfl ?_
      exact hQ _ (AC_of (fun x hx => by
        have h1 : x ≠ 73 := by omega
        have h2 : x ≠ 72 := by omega
        simp [upI, h1, h2, ap_o h1 h2])) (ap_c0 (by decide) rfl rfl) (fun i0 hi => ap_g0 (by decide) hi)
    · exact absurd ⟨by decide, by decide⟩ b2
  · exact absurd ⟨by rw [nI_leI (by omega) (by omega)]; omega, by rw [nI_leI (by omega) (by omega)]; omega⟩ b1
theorem oU_X9_sees_X0 : hOkU mX8_sees 1 0 ⟨"FarHeights$Thing", "sees", "(I)I"⟩ "FarHeights$Thing" := ⟨oX8_sees, k4_112, ⟨by decide +kernel, by decide +kernel, by decide +kernel⟩, k4_110, Or.inl k4_109, _, _, _, rfl, k4_111⟩
theorem c_act30 {l : Launch} {dp : Nat} {ns nl np ml nk nw : Nat} {pl fa fb sl pp pm ki fr tg wh bw : Nat → Nat} {rs sn : Nat → Int32} {fl : Nat → Bool} {qw : Nat → Nat → Nat → Nat → Bool} {I : hI} {J : hJ} {lt tx : Option Nat} {sk : Nat → Nat} {sm sz : Nat → Int32} {s : Nat} {i : Nat} {z : Int32} {Q : hQ} (hG : cG I ns nl np ml nk nw pl fa fb sl pp pm ki fr tg wh bw rs sn fl qw) (hH : cH I sk sm sz) (hs : s < 4) (hi : i < nk) (e0 : sk s = 0) (e9 : sm s = nI i) (ek : ki i = 3) (hQ : ∀ I', AC I I' → I' 74 2 = nI 1 → (∀ i, i < 1 → I' 75 i = nI (List.getD [10] i 0)) → Q (some (.int ((z + (sn i))))) hSH I' J (hRR (some 74) tx))  : HC l mX11_act (dp + 7) 0 0 [.ref 0, .int (nI s), .int (nI 0), .int z] hSH I J (hRR lt tx) Q := by
  refine HC.of (by decide +kernel) rfl (Nat.le_of_ble_eq_true rfl) ?_
  show HV l mX11_act (dp + 7) 0 0 0 [some (.ref 0), some (.int (nI s)), some (.int (nI 0)), some (.int z), none, none] [] hSH I J (hRR lt tx) Q
  obtain ⟨⟨hN, hdo, hla, hlv⟩, hw, ⟨hnp, hml, hnk, hpt, hsi, hbt⟩, ⟨hn8, hm2, hn24, hpW, hsW⟩, hL⟩ := id hG
  obtain ⟨hns, hnl, hpl, hlg⟩ := id hN
  obtain ⟨hn6, hl12, hW, hp99, hr99⟩ := id hw
  refine h_aload_n dX11_act_0 rfl ?_
  refine h_null dX11_act_1 ?_
  refine h_putN dX11_act_2 f_X11_79_9 p_X11_9_17 (fun h => by cases h) rfl ?_
  rw [hRR_lt]
  refine h_iload_n dX11_act_5 rfl ?_
  refine h_cS1 dX11_act_6 k4_72 oSX11_isShelf rfl ?_
  refine c_X11_isShelf (fun b1 => ?_) (fun b1 => ?_)
  · refine h_ifeq (tgt := 21) dX11_act_9 rfl (fun c => absurd c (by decide)) (fun _ => ?_)
    refine h_iload_n dX11_act_12 rfl ?_
    refine h_iconst dX11_act_13 ci_0 ?_
    refine h_iconst dX11_act_14 ci_3 ?_
    refine h_cS3 dX11_act_15 k2_154 oSX11_within rfl ?_
    refine c_X11_within (fun b2 => ?_) (fun b2 => ?_)
    · refine h_ifne (tgt := 23) dX11_act_18 rfl (fun _ => ?_) (fun c => absurd c (by decide))
      refine h_aload_n dX11_act_23 rfl ?_
      refine h_iload_n dX11_act_24 rfl ?_
      refine h_cV1 dX11_act_25 k4_94 oVX11_thingOn rfl rfl ?_
      refine c_thing3 (I := I) hG hH hs hi e0 e9 ek ?_
      refine h_astore dX11_act_28 (Nat.le_of_ble_eq_true rfl) ?_
      refine h_aload dX11_act_30 rfl ?_
      refine h_ifnonnull (tgt := 37) dX11_act_32 rfl ?_
      refine h_aload_n dX11_act_37 rfl ?_
      refine h_aload dX11_act_38 rfl ?_
      refine h_putR dX11_act_40 f_X11_79_9 p_X11_9_17 (fun h => by cases h) rfl ?_
      rw [hRR_lt]
      refine h_iload_n dX11_act_43 rfl ?_
      refine h_tableIn (off := 28) (tgt := 72) dX11_act_44 (by decide) (by decide) (by decide) rfl ?_
      refine h_aload dX11_act_72 rfl ?_
      refine h_iload_n dX11_act_74 rfl ?_
      refine h_cU1 dX11_act_75 k4_108 oU_X9_sees_X0 rfl rfl ?_
      refine t3_X8_sees (n := nI i) (a := sn i) (j := 0) rfl rfl rfl (by omega) ?_
      refine h_istore dX11_act_78 (Nat.le_of_ble_eq_true rfl) ?_
      refine h_goto (tgt := 113) dX11_act_80 rfl ?_
      refine h_aload dX11_act_113 rfl ?_
      refine h_getZ dX11_act_115 f_X11_343_0 rfl (show _ = nI 0 from ap_n (by decide) (by decide) rfl) ?_
      refine h_ifeq (tgt := 126) dX11_act_118 rfl (fun _ => ?_) (fun c => absurd (by decide) c)
      refine h_iload dX11_act_126 rfl ?_
      refine h_ireturn dX11_act_128 rfl ?_
      exact hQ _ (AC_of (fun x hx => by
        have h1 : x ≠ 75 := by omega
        have h2 : x ≠ 74 := by omega
        simp [upI, h1, h2, ap_o h1 h2])) (ap_c0 (by decide) rfl rfl) (fun i0 hi => ap_g0 (by decide) hi)
    · exact absurd ⟨by decide, by decide⟩ b2
  · exact absurd ⟨by rw [nI_leI (by omega) (by omega)]; omega, by rw [nI_leI (by omega) (by omega)]; omega⟩ b1
theorem oU_X9_bends_X0 : hOkU mX8_bends 1 0 ⟨"FarHeights$Thing", "bends", "(I)I"⟩ "FarHeights$Thing" := ⟨oX8_bends, k4_136, ⟨by decide +kernel, by decide +kernel, by decide +kernel⟩, k4_134, Or.inl k4_133, _, _, _, rfl, k4_135⟩
theorem c_act31 {l : Launch} {dp : Nat} {ns nl np ml nk nw : Nat} {pl fa fb sl pp pm ki fr tg wh bw : Nat → Nat} {rs sn : Nat → Int32} {fl : Nat → Bool} {qw : Nat → Nat → Nat → Nat → Bool} {I : hI} {J : hJ} {lt tx : Option Nat} {sk : Nat → Nat} {sm sz : Nat → Int32} {s : Nat} {i : Nat} {z : Int32} {Q : hQ} (hG : cG I ns nl np ml nk nw pl fa fb sl pp pm ki fr tg wh bw rs sn fl qw) (hH : cH I sk sm sz) (hs : s < 4) (hi : i < nk) (e0 : sk s = 0) (e9 : sm s = nI i) (ek : ki i = 3) (hQ : ∀ I', AC I I' → I' 74 2 = nI 2 → (∀ i, i < 2 → I' 75 i = nI (List.getD [11, 10] i 0)) → Q (some (.int (((z + (sn i)) * nI 2)))) hSH I' J (hRR (some 74) tx))  : HC l mX11_act (dp + 7) 0 0 [.ref 0, .int (nI s), .int (nI 1), .int z] hSH I J (hRR lt tx) Q := by
  refine HC.of (by decide +kernel) rfl (Nat.le_of_ble_eq_true rfl) ?_
  show HV l mX11_act (dp + 7) 0 0 0 [some (.ref 0), some (.int (nI s)), some (.int (nI 1)), some (.int z), none, none] [] hSH I J (hRR lt tx) Q
  obtain ⟨⟨hN, hdo, hla, hlv⟩, hw, ⟨hnp, hml, hnk, hpt, hsi, hbt⟩, ⟨hn8, hm2, hn24, hpW, hsW⟩, hL⟩ := id hG
  obtain ⟨hns, hnl, hpl, hlg⟩ := id hN
  obtain ⟨hn6, hl12, hW, hp99, hr99⟩ := id hw
  refine h_aload_n dX11_act_0 rfl ?_
  refine h_null dX11_act_1 ?_
  refine h_putN dX11_act_2 f_X11_79_9 p_X11_9_17 (fun h => by cases h) rfl ?_
  rw [hRR_lt]
  refine h_iload_n dX11_act_5 rfl ?_
  refine h_cS1 dX11_act_6 k4_72 oSX11_isShelf rfl ?_
  refine c_X11_isShelf (fun b1 => ?_) (fun b1 => ?_)
  · refine h_ifeq (tgt := 21) dX11_act_9 rfl (fun c => absurd c (by decide)) (fun _ => ?_)
    refine h_iload_n dX11_act_12 rfl ?_
    refine h_iconst dX11_act_13 ci_0 ?_
    refine h_iconst dX11_act_14 ci_3 ?_
    refine h_cS3 dX11_act_15 k2_154 oSX11_within rfl ?_
    refine c_X11_within (fun b2 => ?_) (fun b2 => ?_)
    · refine h_ifne (tgt := 23) dX11_act_18 rfl (fun _ => ?_) (fun c => absurd c (by decide))
      refine h_aload_n dX11_act_23 rfl ?_
      refine h_iload_n dX11_act_24 rfl ?_
      refine h_cV1 dX11_act_25 k4_94 oVX11_thingOn rfl rfl ?_
      refine c_thing3 (I := I) hG hH hs hi e0 e9 ek ?_
      refine h_astore dX11_act_28 (Nat.le_of_ble_eq_true rfl) ?_
      refine h_aload dX11_act_30 rfl ?_
      refine h_ifnonnull (tgt := 37) dX11_act_32 rfl ?_
      refine h_aload_n dX11_act_37 rfl ?_
      refine h_aload dX11_act_38 rfl ?_
      refine h_putR dX11_act_40 f_X11_79_9 p_X11_9_17 (fun h => by cases h) rfl ?_
      rw [hRR_lt]
      refine h_iload_n dX11_act_43 rfl ?_
      refine h_tableIn (off := 39) (tgt := 83) dX11_act_44 (by decide) (by decide) (by decide) rfl ?_
      refine h_aload dX11_act_83 rfl ?_
      refine h_iload_n dX11_act_85 rfl ?_
      refine h_cU1 dX11_act_86 k4_132 oU_X9_bends_X0 rfl rfl ?_
      refine t3_X8_bends (n := nI i) (a := sn i) (j := 0) rfl rfl rfl (by omega) ?_
      refine h_istore dX11_act_89 (Nat.le_of_ble_eq_true rfl) ?_
      refine h_goto (tgt := 113) dX11_act_91 rfl ?_
      refine h_aload dX11_act_113 rfl ?_
      refine h_getZ dX11_act_115 f_X11_343_0 rfl (show _ = nI 0 from ap_n (by decide) (by decide) rfl) ?_
      refine h_ifeq (tgt := 126) dX11_act_118 rfl (fun _ => ?_) (fun c => absurd (by decide) c)
      refine h_iload dX11_act_126 rfl ?_
      refine h_ireturn dX11_act_128 rfl ?_
      exact hQ _ (AC_of (fun x hx => by
        have h1 : x ≠ 75 := by omega
        have h2 : x ≠ 74 := by omega
        simp [upI, h1, h2, ap_o h1 h2])) (ap_c0 (by decide) rfl rfl) (fun i0 hi => ap_g0 (by decide) hi)
    · exact absurd ⟨by decide, by decide⟩ b2
  · exact absurd ⟨by rw [nI_leI (by omega) (by omega)]; omega, by rw [nI_leI (by omega) (by omega)]; omega⟩ b1
theorem oU_X9_leans_X0 : hOkU mX0_leans 1 0 ⟨"FarHeights$Thing", "leans", "(I)I"⟩ "FarHeights$Thing" := ⟨oX0_leans, k4_160, ⟨by decide +kernel, by decide +kernel, by decide +kernel⟩, k4_158, Or.inl k4_157, _, _, _, rfl, k4_159⟩
theorem c_act32 {l : Launch} {dp : Nat} {ns nl np ml nk nw : Nat} {pl fa fb sl pp pm ki fr tg wh bw : Nat → Nat} {rs sn : Nat → Int32} {fl : Nat → Bool} {qw : Nat → Nat → Nat → Nat → Bool} {I : hI} {J : hJ} {lt tx : Option Nat} {sk : Nat → Nat} {sm sz : Nat → Int32} {s : Nat} {i : Nat} {z : Int32} {Q : hQ} (hG : cG I ns nl np ml nk nw pl fa fb sl pp pm ki fr tg wh bw rs sn fl qw) (hH : cH I sk sm sz) (hs : s < 4) (hi : i < nk) (e0 : sk s = 0) (e9 : sm s = nI i) (ek : ki i = 3) (hQ : ∀ I', AC I I' → I' 74 2 = nI 2 → (∀ i, i < 2 → I' 75 i = nI (List.getD [40, 12] i 0)) → Q (some (.int (cif (sn i = nI i) (-15) ((z + nI 1) / ((sn i) - (nI i)) * nI 2)))) hSH I' J (hRR (some 74) tx))  : HC l mX11_act (dp + 7) 0 0 [.ref 0, .int (nI s), .int (nI 2), .int z] hSH I J (hRR lt tx) Q := by
  refine HC.of (by decide +kernel) rfl (Nat.le_of_ble_eq_true rfl) ?_
  show HV l mX11_act (dp + 7) 0 0 0 [some (.ref 0), some (.int (nI s)), some (.int (nI 2)), some (.int z), none, none] [] hSH I J (hRR lt tx) Q
  obtain ⟨⟨hN, hdo, hla, hlv⟩, hw, ⟨hnp, hml, hnk, hpt, hsi, hbt⟩, ⟨hn8, hm2, hn24, hpW, hsW⟩, hL⟩ := id hG
  obtain ⟨hns, hnl, hpl, hlg⟩ := id hN
  obtain ⟨hn6, hl12, hW, hp99, hr99⟩ := id hw
  refine h_aload_n dX11_act_0 rfl ?_
  refine h_null dX11_act_1 ?_
  refine h_putN dX11_act_2 f_X11_79_9 p_X11_9_17 (fun h => by cases h) rfl ?_
  rw [hRR_lt]
  refine h_iload_n dX11_act_5 rfl ?_
  refine h_cS1 dX11_act_6 k4_72 oSX11_isShelf rfl ?_
  refine c_X11_isShelf (fun b1 => ?_) (fun b1 => ?_)
  · refine h_ifeq (tgt := 21) dX11_act_9 rfl (fun c => absurd c (by decide)) (fun _ => ?_)
    refine h_iload_n dX11_act_12 rfl ?_
    refine h_iconst dX11_act_13 ci_0 ?_
    refine h_iconst dX11_act_14 ci_3 ?_
    refine h_cS3 dX11_act_15 k2_154 oSX11_within rfl ?_
    refine c_X11_within (fun b2 => ?_) (fun b2 => ?_)
    · refine h_ifne (tgt := 23) dX11_act_18 rfl (fun _ => ?_) (fun c => absurd c (by decide))
      refine h_aload_n dX11_act_23 rfl ?_
      refine h_iload_n dX11_act_24 rfl ?_
      refine h_cV1 dX11_act_25 k4_94 oVX11_thingOn rfl rfl ?_
      refine c_thing3 (I := I) hG hH hs hi e0 e9 ek ?_
      refine h_astore dX11_act_28 (Nat.le_of_ble_eq_true rfl) ?_
      refine h_aload dX11_act_30 rfl ?_
      refine h_ifnonnull (tgt := 37) dX11_act_32 rfl ?_
      refine h_aload_n dX11_act_37 rfl ?_
      refine h_aload dX11_act_38 rfl ?_
      refine h_putR dX11_act_40 f_X11_79_9 p_X11_9_17 (fun h => by cases h) rfl ?_
      rw [hRR_lt]
      refine h_iload_n dX11_act_43 rfl ?_
      refine h_tableIn (off := 50) (tgt := 94) dX11_act_44 (by decide) (by decide) (by decide) rfl ?_
      refine h_aload dX11_act_94 rfl ?_
      refine h_iload_n dX11_act_96 rfl ?_
      refine h_cU1 dX11_act_97 k4_156 oU_X9_leans_X0 rfl rfl ?_
      refine t3_X0_leans (n := nI i) (a := sn i) (j := 0) rfl rfl rfl (by omega) (fun v0 hz => ?_) (fun hz => ?_)
      · refine h_istore dX11_act_100 (Nat.le_of_ble_eq_true rfl) ?_
        refine h_goto (tgt := 113) dX11_act_102 rfl ?_
        refine h_aload dX11_act_113 rfl ?_
        refine h_getZ dX11_act_115 f_X11_343_0 rfl (show _ = nI 1 from rfl) ?_
        refine h_ifeq (tgt := 126) dX11_act_118 rfl (fun c => absurd c (by decide)) (fun _ => ?_)
        refine h_bipush dX11_act_121 cb_m15 ?_
        refine h_goto (tgt := 128) dX11_act_123 rfl ?_
        refine h_ireturn dX11_act_128 rfl ?_
        rw [cif_t hz] at hQ
        exact hQ _ (AC_of (fun x hx => by
          have h1 : x ≠ 75 := by omega
          have h2 : x ≠ 74 := by omega
          simp [upI, h1, h2, ap_o h1 h2])) ((upI_f (by decide)).trans (ap_c0 (by decide) rfl rfl)) (fun i0 hi => (congrFun (upI_n _ _ _ (by decide)) i0).trans (ap_g0 (by decide) hi))
      · refine h_istore dX11_act_100 (Nat.le_of_ble_eq_true rfl) ?_
        refine h_goto (tgt := 113) dX11_act_102 rfl ?_
        refine h_aload dX11_act_113 rfl ?_
        refine h_getZ dX11_act_115 f_X11_343_0 rfl (show _ = nI 0 from ap_n (by decide) (by decide) rfl) ?_
        refine h_ifeq (tgt := 126) dX11_act_118 rfl (fun _ => ?_) (fun c => absurd (by decide) c)
        refine h_iload dX11_act_126 rfl ?_
        refine h_ireturn dX11_act_128 rfl ?_
        rw [cif_f hz] at hQ
        exact hQ _ (AC_of (fun x hx => by
          have h1 : x ≠ 75 := by omega
          have h2 : x ≠ 74 := by omega
          simp [upI, h1, h2, ap_o h1 h2])) (ap_c0 (by decide) rfl rfl) (fun i0 hi => ap_g0 (by decide) hi)
    · exact absurd ⟨by decide, by decide⟩ b2
  · exact absurd ⟨by rw [nI_leI (by omega) (by omega)]; omega, by rw [nI_leI (by omega) (by omega)]; omega⟩ b1
theorem oU_X9_tells_X0 : hOkU mX8_tells 1 0 ⟨"FarHeights$Thing", "tells", "(I)I"⟩ "FarHeights$Thing" := ⟨oX8_tells, k4_176, ⟨by decide +kernel, by decide +kernel, by decide +kernel⟩, k4_174, Or.inl k4_173, _, _, _, rfl, k4_175⟩
theorem c_act33 {l : Launch} {dp : Nat} {ns nl np ml nk nw : Nat} {pl fa fb sl pp pm ki fr tg wh bw : Nat → Nat} {rs sn : Nat → Int32} {fl : Nat → Bool} {qw : Nat → Nat → Nat → Nat → Bool} {I : hI} {J : hJ} {lt tx : Option Nat} {sk : Nat → Nat} {sm sz : Nat → Int32} {s : Nat} {i : Nat} {z : Int32} {Q : hQ} (hG : cG I ns nl np ml nk nw pl fa fb sl pp pm ki fr tg wh bw rs sn fl qw) (hH : cH I sk sm sz) (hs : s < 4) (hi : i < nk) (e0 : sk s = 0) (e9 : sm s = nI i) (ek : ki i = 3) (hQ : ∀ I', AC I I' → I' 74 2 = nI 3 → (∀ i, i < 3 → I' 75 i = nI (List.getD [13, 11, 10] i 0)) → Q (some (.int ((((z + (sn i)) * nI 2) ^^^ (nI i))))) hSH I' J (hRR (some 74) tx))  : HC l mX11_act (dp + 7) 0 0 [.ref 0, .int (nI s), .int (nI 3), .int z] hSH I J (hRR lt tx) Q := by
  refine HC.of (by decide +kernel) rfl (Nat.le_of_ble_eq_true rfl) ?_
  show HV l mX11_act (dp + 7) 0 0 0 [some (.ref 0), some (.int (nI s)), some (.int (nI 3)), some (.int z), none, none] [] hSH I J (hRR lt tx) Q
  obtain ⟨⟨hN, hdo, hla, hlv⟩, hw, ⟨hnp, hml, hnk, hpt, hsi, hbt⟩, ⟨hn8, hm2, hn24, hpW, hsW⟩, hL⟩ := id hG
  obtain ⟨hns, hnl, hpl, hlg⟩ := id hN
  obtain ⟨hn6, hl12, hW, hp99, hr99⟩ := id hw
  refine h_aload_n dX11_act_0 rfl ?_
  refine h_null dX11_act_1 ?_
  refine h_putN dX11_act_2 f_X11_79_9 p_X11_9_17 (fun h => by cases h) rfl ?_
  rw [hRR_lt]
  refine h_iload_n dX11_act_5 rfl ?_
  refine h_cS1 dX11_act_6 k4_72 oSX11_isShelf rfl ?_
  refine c_X11_isShelf (fun b1 => ?_) (fun b1 => ?_)
  · refine h_ifeq (tgt := 21) dX11_act_9 rfl (fun c => absurd c (by decide)) (fun _ => ?_)
    refine h_iload_n dX11_act_12 rfl ?_
    refine h_iconst dX11_act_13 ci_0 ?_
    refine h_iconst dX11_act_14 ci_3 ?_
    refine h_cS3 dX11_act_15 k2_154 oSX11_within rfl ?_
    refine c_X11_within (fun b2 => ?_) (fun b2 => ?_)
    · refine h_ifne (tgt := 23) dX11_act_18 rfl (fun _ => ?_) (fun c => absurd c (by decide))
      refine h_aload_n dX11_act_23 rfl ?_
      refine h_iload_n dX11_act_24 rfl ?_
      refine h_cV1 dX11_act_25 k4_94 oVX11_thingOn rfl rfl ?_
      refine c_thing3 (I := I) hG hH hs hi e0 e9 ek ?_
      refine h_astore dX11_act_28 (Nat.le_of_ble_eq_true rfl) ?_
      refine h_aload dX11_act_30 rfl ?_
      refine h_ifnonnull (tgt := 37) dX11_act_32 rfl ?_
      refine h_aload_n dX11_act_37 rfl ?_
      refine h_aload dX11_act_38 rfl ?_
      refine h_putR dX11_act_40 f_X11_79_9 p_X11_9_17 (fun h => by cases h) rfl ?_
      rw [hRR_lt]
      refine h_iload_n dX11_act_43 rfl ?_
      refine h_tableOut (tgt := 105) dX11_act_44 (by decide) rfl ?_
      refine h_aload dX11_act_105 rfl ?_
      refine h_iload_n dX11_act_107 rfl ?_
      refine h_cU1 dX11_act_108 k4_172 oU_X9_tells_X0 rfl rfl ?_
      refine t3_X8_tells (n := nI i) (a := sn i) (j := 0) rfl rfl rfl (by omega) ?_
      refine h_istore dX11_act_111 (Nat.le_of_ble_eq_true rfl) ?_
      refine h_aload dX11_act_113 rfl ?_
      refine h_getZ dX11_act_115 f_X11_343_0 rfl (show _ = nI 0 from ap_n (by decide) (by decide) rfl) ?_
      refine h_ifeq (tgt := 126) dX11_act_118 rfl (fun _ => ?_) (fun c => absurd (by decide) c)
      refine h_iload dX11_act_126 rfl ?_
      refine h_ireturn dX11_act_128 rfl ?_
      exact hQ _ (AC_of (fun x hx => by
        have h1 : x ≠ 75 := by omega
        have h2 : x ≠ 74 := by omega
        simp [upI, h1, h2, ap_o h1 h2])) (ap_c0 (by decide) rfl rfl) (fun i0 hi => ap_g0 (by decide) hi)
    · exact absurd ⟨by decide, by decide⟩ b2
  · exact absurd ⟨by rw [nI_leI (by omega) (by omega)]; omega, by rw [nI_leI (by omega) (by omega)]; omega⟩ b1
theorem oU_X9_sees_X1 : hOkU mX1_sees 1 1 ⟨"FarHeights$Thing", "sees", "(I)I"⟩ "FarHeights$Thing" := ⟨oX1_sees, k4_115, ⟨by decide +kernel, by decide +kernel, by decide +kernel⟩, k4_110, Or.inl k4_109, _, _, _, rfl, k4_114⟩
theorem c_act40 {l : Launch} {dp : Nat} {ns nl np ml nk nw : Nat} {pl fa fb sl pp pm ki fr tg wh bw : Nat → Nat} {rs sn : Nat → Int32} {fl : Nat → Bool} {qw : Nat → Nat → Nat → Nat → Bool} {I : hI} {J : hJ} {lt tx : Option Nat} {sk : Nat → Nat} {sm sz : Nat → Int32} {s : Nat} {i : Nat} {z : Int32} {Q : hQ} (hG : cG I ns nl np ml nk nw pl fa fb sl pp pm ki fr tg wh bw rs sn fl qw) (hH : cH I sk sm sz) (hs : s < 4) (hi : i < nk) (e0 : sk s = 0) (e9 : sm s = nI i) (ek : ki i = 4) (hQ : ∀ I', AC I I' → I' 76 2 = nI 2 → (∀ i, i < 2 → I' 77 i = nI (List.getD [50, 10] i 0)) → Q (some (.int (((z + (sn i)) ^^^ nI 3)))) hSH I' J (hRR (some 76) tx))  : HC l mX11_act (dp + 7) 0 0 [.ref 0, .int (nI s), .int (nI 0), .int z] hSH I J (hRR lt tx) Q := by
  refine HC.of (by decide +kernel) rfl (Nat.le_of_ble_eq_true rfl) ?_
  show HV l mX11_act (dp + 7) 0 0 0 [some (.ref 0), some (.int (nI s)), some (.int (nI 0)), some (.int z), none, none] [] hSH I J (hRR lt tx) Q
  obtain ⟨⟨hN, hdo, hla, hlv⟩, hw, ⟨hnp, hml, hnk, hpt, hsi, hbt⟩, ⟨hn8, hm2, hn24, hpW, hsW⟩, hL⟩ := id hG
  obtain ⟨hns, hnl, hpl, hlg⟩ := id hN
  obtain ⟨hn6, hl12, hW, hp99, hr99⟩ := id hw
  refine h_aload_n dX11_act_0 rfl ?_
  refine h_null dX11_act_1 ?_
  refine h_putN dX11_act_2 f_X11_79_9 p_X11_9_17 (fun h => by cases h) rfl ?_
  rw [hRR_lt]
  refine h_iload_n dX11_act_5 rfl ?_
  refine h_cS1 dX11_act_6 k4_72 oSX11_isShelf rfl ?_
  refine c_X11_isShelf (fun b1 => ?_) (fun b1 => ?_)
  · refine h_ifeq (tgt := 21) dX11_act_9 rfl (fun c => absurd c (by decide)) (fun _ => ?_)
    refine h_iload_n dX11_act_12 rfl ?_
    refine h_iconst dX11_act_13 ci_0 ?_
    refine h_iconst dX11_act_14 ci_3 ?_
    refine h_cS3 dX11_act_15 k2_154 oSX11_within rfl ?_
    refine c_X11_within (fun b2 => ?_) (fun b2 => ?_)
    · refine h_ifne (tgt := 23) dX11_act_18 rfl (fun _ => ?_) (fun c => absurd c (by decide))
      refine h_aload_n dX11_act_23 rfl ?_
      refine h_iload_n dX11_act_24 rfl ?_
      refine h_cV1 dX11_act_25 k4_94 oVX11_thingOn rfl rfl ?_
      refine c_thing4 (I := I) hG hH hs hi e0 e9 ek ?_
      refine h_astore dX11_act_28 (Nat.le_of_ble_eq_true rfl) ?_
      refine h_aload dX11_act_30 rfl ?_
      refine h_ifnonnull (tgt := 37) dX11_act_32 rfl ?_
      refine h_aload_n dX11_act_37 rfl ?_
      refine h_aload dX11_act_38 rfl ?_
      refine h_putR dX11_act_40 f_X11_79_9 p_X11_9_17 (fun h => by cases h) rfl ?_
      rw [hRR_lt]
      refine h_iload_n dX11_act_43 rfl ?_
      refine h_tableIn (off := 28) (tgt := 72) dX11_act_44 (by decide) (by decide) (by decide) rfl ?_
      refine h_aload dX11_act_72 rfl ?_
      refine h_iload_n dX11_act_74 rfl ?_
      refine h_cU1 dX11_act_75 k4_108 oU_X9_sees_X1 rfl rfl ?_
      refine t4_X1_sees (n := nI i) (a := sn i) (j := 0) rfl rfl rfl (by omega) ?_
      refine h_istore dX11_act_78 (Nat.le_of_ble_eq_true rfl) ?_
      refine h_goto (tgt := 113) dX11_act_80 rfl ?_
      refine h_aload dX11_act_113 rfl ?_
      refine h_getZ dX11_act_115 f_X11_343_1 rfl (show _ = nI 0 from ap_n (by decide) (by decide) rfl) ?_
      refine h_ifeq (tgt := 126) dX11_act_118 rfl (fun _ => ?_) (fun c => absurd (by decide) c)
      refine h_iload dX11_act_126 rfl ?_
      refine h_ireturn dX11_act_128 rfl ?_
      exact hQ _ (AC_of (fun x hx => by
        have h1 : x ≠ 77 := by omega
        have h2 : x ≠ 76 := by omega
        simp [upI, h1, h2, ap_o h1 h2])) (ap_c0 (by decide) rfl rfl) (fun i0 hi => ap_g0 (by decide) hi)
    · exact absurd ⟨by decide, by decide⟩ b2
  · exact absurd ⟨by rw [nI_leI (by omega) (by omega)]; omega, by rw [nI_leI (by omega) (by omega)]; omega⟩ b1
theorem oU_X9_bends_X1 : hOkU mX4_bends 1 1 ⟨"FarHeights$Thing", "bends", "(I)I"⟩ "FarHeights$Thing" := ⟨oX4_bends, k4_140, ⟨by decide +kernel, by decide +kernel, by decide +kernel⟩, k4_134, Or.inl k4_133, _, _, _, rfl, k4_139⟩
theorem c_act41 {l : Launch} {dp : Nat} {ns nl np ml nk nw : Nat} {pl fa fb sl pp pm ki fr tg wh bw : Nat → Nat} {rs sn : Nat → Int32} {fl : Nat → Bool} {qw : Nat → Nat → Nat → Nat → Bool} {I : hI} {J : hJ} {lt tx : Option Nat} {sk : Nat → Nat} {sm sz : Nat → Int32} {s : Nat} {i : Nat} {z : Int32} {Q : hQ} (hG : cG I ns nl np ml nk nw pl fa fb sl pp pm ki fr tg wh bw rs sn fl qw) (hH : cH I sk sm sz) (hs : s < 4) (hi : i < nk) (e0 : sk s = 0) (e9 : sm s = nI i) (ek : ki i = 4) (hQ : ∀ I', AC I I' → I' 76 2 = nI 4 → (∀ i, i < 4 → I' 77 i = nI (List.getD [20, 11, 50, 10] i 0)) → Q (some (.int ((((z + (sn i)) ^^^ nI 3) * nI 2 + nI 7)))) hSH I' J (hRR (some 76) tx))  : HC l mX11_act (dp + 7) 0 0 [.ref 0, .int (nI s), .int (nI 1), .int z] hSH I J (hRR lt tx) Q := by
  refine HC.of (by decide +kernel) rfl (Nat.le_of_ble_eq_true rfl) ?_
  show HV l mX11_act (dp + 7) 0 0 0 [some (.ref 0), some (.int (nI s)), some (.int (nI 1)), some (.int z), none, none] [] hSH I J (hRR lt tx) Q
  obtain ⟨⟨hN, hdo, hla, hlv⟩, hw, ⟨hnp, hml, hnk, hpt, hsi, hbt⟩, ⟨hn8, hm2, hn24, hpW, hsW⟩, hL⟩ := id hG
  obtain ⟨hns, hnl, hpl, hlg⟩ := id hN
  obtain ⟨hn6, hl12, hW, hp99, hr99⟩ := id hw
  refine h_aload_n dX11_act_0 rfl ?_
  refine h_null dX11_act_1 ?_
  refine h_putN dX11_act_2 f_X11_79_9 p_X11_9_17 (fun h => by cases h) rfl ?_
  rw [hRR_lt]
  refine h_iload_n dX11_act_5 rfl ?_
  refine h_cS1 dX11_act_6 k4_72 oSX11_isShelf rfl ?_
  refine c_X11_isShelf (fun b1 => ?_) (fun b1 => ?_)
  · refine h_ifeq (tgt := 21) dX11_act_9 rfl (fun c => absurd c (by decide)) (fun _ => ?_)
    refine h_iload_n dX11_act_12 rfl ?_
    refine h_iconst dX11_act_13 ci_0 ?_
    refine h_iconst dX11_act_14 ci_3 ?_
    refine h_cS3 dX11_act_15 k2_154 oSX11_within rfl ?_
    refine c_X11_within (fun b2 => ?_) (fun b2 => ?_)
    · refine h_ifne (tgt := 23) dX11_act_18 rfl (fun _ => ?_) (fun c => absurd c (by decide))
      refine h_aload_n dX11_act_23 rfl ?_
      refine h_iload_n dX11_act_24 rfl ?_
      refine h_cV1 dX11_act_25 k4_94 oVX11_thingOn rfl rfl ?_
      refine c_thing4 (I := I) hG hH hs hi e0 e9 ek ?_
      refine h_astore dX11_act_28 (Nat.le_of_ble_eq_true rfl) ?_
      refine h_aload dX11_act_30 rfl ?_
      refine h_ifnonnull (tgt := 37) dX11_act_32 rfl ?_
      refine h_aload_n dX11_act_37 rfl ?_
      refine h_aload dX11_act_38 rfl ?_
      refine h_putR dX11_act_40 f_X11_79_9 p_X11_9_17 (fun h => by cases h) rfl ?_
      rw [hRR_lt]
      refine h_iload_n dX11_act_43 rfl ?_
      refine h_tableIn (off := 39) (tgt := 83) dX11_act_44 (by decide) (by decide) (by decide) rfl ?_
      refine h_aload dX11_act_83 rfl ?_
      refine h_iload_n dX11_act_85 rfl ?_
      refine h_cU1 dX11_act_86 k4_132 oU_X9_bends_X1 rfl rfl ?_
      refine t4_X4_bends (n := nI i) (a := sn i) (j := 0) rfl rfl rfl (by omega) ?_
      refine h_istore dX11_act_89 (Nat.le_of_ble_eq_true rfl) ?_
      refine h_goto (tgt := 113) dX11_act_91 rfl ?_
      refine h_aload dX11_act_113 rfl ?_
      refine h_getZ dX11_act_115 f_X11_343_1 rfl (show _ = nI 0 from ap_n (by decide) (by decide) rfl) ?_
      refine h_ifeq (tgt := 126) dX11_act_118 rfl (fun _ => ?_) (fun c => absurd (by decide) c)
      refine h_iload dX11_act_126 rfl ?_
      refine h_ireturn dX11_act_128 rfl ?_
      exact hQ _ (AC_of (fun x hx => by
        have h1 : x ≠ 77 := by omega
        have h2 : x ≠ 76 := by omega
        simp [upI, h1, h2, ap_o h1 h2])) (ap_c0 (by decide) rfl rfl) (fun i0 hi => ap_g0 (by decide) hi)
    · exact absurd ⟨by decide, by decide⟩ b2
  · exact absurd ⟨by rw [nI_leI (by omega) (by omega)]; omega, by rw [nI_leI (by omega) (by omega)]; omega⟩ b1
theorem oU_X9_leans_X1 : hOkU mX8_leans 1 1 ⟨"FarHeights$Thing", "leans", "(I)I"⟩ "FarHeights$Thing" := ⟨oX8_leans, k4_163, ⟨by decide +kernel, by decide +kernel, by decide +kernel⟩, k4_158, Or.inl k4_157, _, _, _, rfl, k4_165⟩
theorem c_act42 {l : Launch} {dp : Nat} {ns nl np ml nk nw : Nat} {pl fa fb sl pp pm ki fr tg wh bw : Nat → Nat} {rs sn : Nat → Int32} {fl : Nat → Bool} {qw : Nat → Nat → Nat → Nat → Bool} {I : hI} {J : hJ} {lt tx : Option Nat} {sk : Nat → Nat} {sm sz : Nat → Int32} {s : Nat} {i : Nat} {z : Int32} {Q : hQ} (hG : cG I ns nl np ml nk nw pl fa fb sl pp pm ki fr tg wh bw rs sn fl qw) (hH : cH I sk sm sz) (hs : s < 4) (hi : i < nk) (e0 : sk s = 0) (e9 : sm s = nI i) (ek : ki i = 4) (hQ : ∀ I', AC I I' → I' 76 2 = nI 1 → (∀ i, i < 1 → I' 77 i = nI (List.getD [12] i 0)) → Q (some (.int (cif (sn i = nI i) (-15) (z / ((sn i) - (nI i)))))) hSH I' J (hRR (some 76) tx))  : HC l mX11_act (dp + 7) 0 0 [.ref 0, .int (nI s), .int (nI 2), .int z] hSH I J (hRR lt tx) Q := by
  refine HC.of (by decide +kernel) rfl (Nat.le_of_ble_eq_true rfl) ?_
  show HV l mX11_act (dp + 7) 0 0 0 [some (.ref 0), some (.int (nI s)), some (.int (nI 2)), some (.int z), none, none] [] hSH I J (hRR lt tx) Q
  obtain ⟨⟨hN, hdo, hla, hlv⟩, hw, ⟨hnp, hml, hnk, hpt, hsi, hbt⟩, ⟨hn8, hm2, hn24, hpW, hsW⟩, hL⟩ := id hG
  obtain ⟨hns, hnl, hpl, hlg⟩ := id hN
  obtain ⟨hn6, hl12, hW, hp99, hr99⟩ := id hw
  refine h_aload_n dX11_act_0 rfl ?_
  refine h_null dX11_act_1 ?_
  refine h_putN dX11_act_2 f_X11_79_9 p_X11_9_17 (fun h => by cases h) rfl ?_
  rw [hRR_lt]
  refine h_iload_n dX11_act_5 rfl ?_
  refine h_cS1 dX11_act_6 k4_72 oSX11_isShelf rfl ?_
  refine c_X11_isShelf (fun b1 => ?_) (fun b1 => ?_)
  · refine h_ifeq (tgt := 21) dX11_act_9 rfl (fun c => absurd c (by decide)) (fun _ => ?_)
    refine h_iload_n dX11_act_12 rfl ?_
    refine h_iconst dX11_act_13 ci_0 ?_
    refine h_iconst dX11_act_14 ci_3 ?_
    refine h_cS3 dX11_act_15 k2_154 oSX11_within rfl ?_
    refine c_X11_within (fun b2 => ?_) (fun b2 => ?_)
    · refine h_ifne (tgt := 23) dX11_act_18 rfl (fun _ => ?_) (fun c => absurd c (by decide))
      refine h_aload_n dX11_act_23 rfl ?_
      refine h_iload_n dX11_act_24 rfl ?_
      refine h_cV1 dX11_act_25 k4_94 oVX11_thingOn rfl rfl ?_
      refine c_thing4 (I := I) hG hH hs hi e0 e9 ek ?_
      refine h_astore dX11_act_28 (Nat.le_of_ble_eq_true rfl) ?_
      refine h_aload dX11_act_30 rfl ?_
      refine h_ifnonnull (tgt := 37) dX11_act_32 rfl ?_
      refine h_aload_n dX11_act_37 rfl ?_
      refine h_aload dX11_act_38 rfl ?_
      refine h_putR dX11_act_40 f_X11_79_9 p_X11_9_17 (fun h => by cases h) rfl ?_
      rw [hRR_lt]
      refine h_iload_n dX11_act_43 rfl ?_
      refine h_tableIn (off := 50) (tgt := 94) dX11_act_44 (by decide) (by decide) (by decide) rfl ?_
      refine h_aload dX11_act_94 rfl ?_
      refine h_iload_n dX11_act_96 rfl ?_
      refine h_cU1 dX11_act_97 k4_156 oU_X9_leans_X1 rfl rfl ?_
      refine t4_X8_leans (n := nI i) (a := sn i) (j := 0) rfl rfl rfl (by omega) (fun v0 hz => ?_) (fun hz => ?_)
      · refine h_istore dX11_act_100 (Nat.le_of_ble_eq_true rfl) ?_
        refine h_goto (tgt := 113) dX11_act_102 rfl ?_
        refine h_aload dX11_act_113 rfl ?_
        refine h_getZ dX11_act_115 f_X11_343_1 rfl (show _ = nI 1 from rfl) ?_
        refine h_ifeq (tgt := 126) dX11_act_118 rfl (fun c => absurd c (by decide)) (fun _ => ?_)
        refine h_bipush dX11_act_121 cb_m15 ?_
        refine h_goto (tgt := 128) dX11_act_123 rfl ?_
        refine h_ireturn dX11_act_128 rfl ?_
        rw [cif_t hz] at hQ
        exact hQ _ (AC_of (fun x hx => by
          have h1 : x ≠ 77 := by omega
          have h2 : x ≠ 76 := by omega
          simp [upI, h1, h2, ap_o h1 h2])) ((upI_f (by decide)).trans (ap_c0 (by decide) rfl rfl)) (fun i0 hi => (congrFun (upI_n _ _ _ (by decide)) i0).trans (ap_g0 (by decide) hi))
      · refine h_istore dX11_act_100 (Nat.le_of_ble_eq_true rfl) ?_
        refine h_goto (tgt := 113) dX11_act_102 rfl ?_
        refine h_aload dX11_act_113 rfl ?_
        refine h_getZ dX11_act_115 f_X11_343_1 rfl (show _ = nI 0 from ap_n (by decide) (by decide) rfl) ?_
        refine h_ifeq (tgt := 126) dX11_act_118 rfl (fun _ => ?_) (fun c => absurd (by decide) c)
        refine h_iload dX11_act_126 rfl ?_
        refine h_ireturn dX11_act_128 rfl ?_
        rw [cif_f hz] at hQ
        exact hQ _ (AC_of (fun x hx => by
          have h1 : x ≠ 77 := by omega
          have h2 : x ≠ 76 := by omega
          simp [upI, h1, h2, ap_o h1 h2])) (ap_c0 (by decide) rfl rfl) (fun i0 hi => ap_g0 (by decide) hi)
    · exact absurd ⟨by decide, by decide⟩ b2
  · exact absurd ⟨by rw [nI_leI (by omega) (by omega)]; omega, by rw [nI_leI (by omega) (by omega)]; omega⟩ b1
theorem oU_X9_tells_X1 : hOkU mX1_tells 1 1 ⟨"FarHeights$Thing", "tells", "(I)I"⟩ "FarHeights$Thing" := ⟨oX1_tells, k4_180, ⟨by decide +kernel, by decide +kernel, by decide +kernel⟩, k4_174, Or.inl k4_173, _, _, _, rfl, k4_179⟩
theorem c_act43 {l : Launch} {dp : Nat} {ns nl np ml nk nw : Nat} {pl fa fb sl pp pm ki fr tg wh bw : Nat → Nat} {rs sn : Nat → Int32} {fl : Nat → Bool} {qw : Nat → Nat → Nat → Nat → Bool} {I : hI} {J : hJ} {lt tx : Option Nat} {sk : Nat → Nat} {sm sz : Nat → Int32} {s : Nat} {i : Nat} {z : Int32} {Q : hQ} (hG : cG I ns nl np ml nk nw pl fa fb sl pp pm ki fr tg wh bw rs sn fl qw) (hH : cH I sk sm sz) (hs : s < 4) (hi : i < nk) (e0 : sk s = 0) (e9 : sm s = nI i) (ek : ki i = 4) (hQ : ∀ I', AC I I' → I' 76 2 = nI 7 → (∀ i, i < 7 → I' 77 i = nI (List.getD [51, 13, 20, 11, 50, 10, 12] i 0)) → Q (some (.int (cif (sn i = nI i) (-15) (((((z + (sn i)) ^^^ nI 3) * nI 2 + nI 7) ^^^ (nI i)) + (nI i) / ((sn i) - (nI i)))))) hSH I' J (hRR (some 76) tx))  : HC l mX11_act (dp + 7) 0 0 [.ref 0, .int (nI s), .int (nI 3), .int z] hSH I J (hRR lt tx) Q := by
  refine HC.of (by decide +kernel) rfl (Nat.le_of_ble_eq_true rfl) ?_
  show HV l mX11_act (dp + 7) 0 0 0 [some (.ref 0), some (.int (nI s)), some (.int (nI 3)), some (.int z), none, none] [] hSH I J (hRR lt tx) Q
  obtain ⟨⟨hN, hdo, hla, hlv⟩, hw, ⟨hnp, hml, hnk, hpt, hsi, hbt⟩, ⟨hn8, hm2, hn24, hpW, hsW⟩, hL⟩ := id hG
  obtain ⟨hns, hnl, hpl, hlg⟩ := id hN
  obtain ⟨hn6, hl12, hW, hp99, hr99⟩ := id hw
  refine h_aload_n dX11_act_0 rfl ?_
  refine h_null dX11_act_1 ?_
  refine h_putN dX11_act_2 f_X11_79_9 p_X11_9_17 (fun h => by cases h) rfl ?_
  rw [hRR_lt]
  refine h_iload_n dX11_act_5 rfl ?_
  refine h_cS1 dX11_act_6 k4_72 oSX11_isShelf rfl ?_
  refine c_X11_isShelf (fun b1 => ?_) (fun b1 => ?_)
  · refine h_ifeq (tgt := 21) dX11_act_9 rfl (fun c => absurd c (by decide)) (fun _ => ?_)
    refine h_iload_n dX11_act_12 rfl ?_
    refine h_iconst dX11_act_13 ci_0 ?_
    refine h_iconst dX11_act_14 ci_3 ?_
    refine h_cS3 dX11_act_15 k2_154 oSX11_within rfl ?_
    refine c_X11_within (fun b2 => ?_) (fun b2 => ?_)
    · refine h_ifne (tgt := 23) dX11_act_18 rfl (fun _ => ?_) (fun c => absurd c (by decide))
      refine h_aload_n dX11_act_23 rfl ?_
      refine h_iload_n dX11_act_24 rfl ?_
      refine h_cV1 dX11_act_25 k4_94 oVX11_thingOn rfl rfl ?_
      refine c_thing4 (I := I) hG hH hs hi e0 e9 ek ?_
      refine h_astore dX11_act_28 (Nat.le_of_ble_eq_true rfl) ?_
      refine h_aload dX11_act_30 rfl ?_
      refine h_ifnonnull (tgt := 37) dX11_act_32 rfl ?_
      refine h_aload_n dX11_act_37 rfl ?_
      refine h_aload dX11_act_38 rfl ?_
      refine h_putR dX11_act_40 f_X11_79_9 p_X11_9_17 (fun h => by cases h) rfl ?_
      rw [hRR_lt]
      refine h_iload_n dX11_act_43 rfl ?_
      refine h_tableOut (tgt := 105) dX11_act_44 (by decide) rfl ?_
      refine h_aload dX11_act_105 rfl ?_
      refine h_iload_n dX11_act_107 rfl ?_
      refine h_cU1 dX11_act_108 k4_172 oU_X9_tells_X1 rfl rfl ?_
      refine t4_X1_tells (n := nI i) (a := sn i) (j := 0) rfl rfl rfl (by omega) (fun v0 hz => ?_) (fun hz => ?_)
      · refine h_istore dX11_act_111 (Nat.le_of_ble_eq_true rfl) ?_
        refine h_aload dX11_act_113 rfl ?_
        refine h_getZ dX11_act_115 f_X11_343_1 rfl (show _ = nI 1 from rfl) ?_
        refine h_ifeq (tgt := 126) dX11_act_118 rfl (fun c => absurd c (by decide)) (fun _ => ?_)
        refine h_bipush dX11_act_121 cb_m15 ?_
        refine h_goto (tgt := 128) dX11_act_123 rfl ?_
        refine h_ireturn dX11_act_128 rfl ?_
        rw [cif_t hz] at hQ
        exact hQ _ (AC_of (fun x hx => by
          have h1 : x ≠ 77 := by omega
          have h2 : x ≠ 76 := by omega
          simp [upI, h1, h2, ap_o h1 h2])) ((upI_f (by decide)).trans (ap_c0 (by decide) rfl rfl)) (fun i0 hi => (congrFun (upI_n _ _ _ (by decide)) i0).trans (ap_g0 (by decide) hi))
      · refine h_istore dX11_act_111 (Nat.le_of_ble_eq_true rfl) ?_
        refine h_aload dX11_act_113 rfl ?_
        refine h_getZ dX11_act_115 f_X11_343_1 rfl (show _ = nI 0 from ap_n (by decide) (by decide) rfl) ?_
        refine h_ifeq (tgt := 126) dX11_act_118 rfl (fun _ => ?_) (fun c => absurd (by decide) c)
        refine h_iload dX11_act_126 rfl ?_
        refine h_ireturn dX11_act_128 rfl ?_
        rw [cif_f hz] at hQ
        exact hQ _ (AC_of (fun x hx => by
          have h1 : x ≠ 77 := by omega
          have h2 : x ≠ 76 := by omega
          simp [upI, h1, h2, ap_o h1 h2])) (ap_c0 (by decide) rfl rfl) (fun i0 hi => ap_g0 (by decide) hi)
    · exact absurd ⟨by decide, by decide⟩ b2
  · exact absurd ⟨by rw [nI_leI (by omega) (by omega)]; omega, by rw [nI_leI (by omega) (by omega)]; omega⟩ b1
theorem oU_X9_sees_X2 : hOkU mX2_sees 1 2 ⟨"FarHeights$Thing", "sees", "(I)I"⟩ "FarHeights$Thing" := ⟨oX2_sees, k4_121, ⟨by decide +kernel, by decide +kernel, by decide +kernel⟩, k4_110, Or.inl k4_109, _, _, _, rfl, k4_120⟩
theorem c_act50 {l : Launch} {dp : Nat} {ns nl np ml nk nw : Nat} {pl fa fb sl pp pm ki fr tg wh bw : Nat → Nat} {rs sn : Nat → Int32} {fl : Nat → Bool} {qw : Nat → Nat → Nat → Nat → Bool} {I : hI} {J : hJ} {lt tx : Option Nat} {sk : Nat → Nat} {sm sz : Nat → Int32} {s : Nat} {i : Nat} {z : Int32} {Q : hQ} (hG : cG I ns nl np ml nk nw pl fa fb sl pp pm ki fr tg wh bw rs sn fl qw) (hH : cH I sk sm sz) (hs : s < 4) (hi : i < nk) (e0 : sk s = 0) (e9 : sm s = nI i) (ek : ki i = 5) (hQ : ∀ I', AC I I' → I' 78 2 = nI 3 → (∀ i, i < 3 → I' 79 i = nI (List.getD [60, 30, 10] i 0)) → Q (some (.int ((nI 0 - (z + (sn i) - (nI i)))))) hSH I' J (hRR (some 78) tx))  : HC l mX11_act (dp + 7) 0 0 [.ref 0, .int (nI s), .int (nI 0), .int z] hSH I J (hRR lt tx) Q := by
  refine HC.of (by decide +kernel) rfl (Nat.le_of_ble_eq_true rfl) ?_
  show HV l mX11_act (dp + 7) 0 0 0 [some (.ref 0), some (.int (nI s)), some (.int (nI 0)), some (.int z), none, none] [] hSH I J (hRR lt tx) Q
  obtain ⟨⟨hN, hdo, hla, hlv⟩, hw, ⟨hnp, hml, hnk, hpt, hsi, hbt⟩, ⟨hn8, hm2, hn24, hpW, hsW⟩, hL⟩ := id hG
  obtain ⟨hns, hnl, hpl, hlg⟩ := id hN
  obtain ⟨hn6, hl12, hW, hp99, hr99⟩ := id hw
  refine h_aload_n dX11_act_0 rfl ?_
  refine h_null dX11_act_1 ?_
  refine h_putN dX11_act_2 f_X11_79_9 p_X11_9_17 (fun h => by cases h) rfl ?_
  rw [hRR_lt]
  refine h_iload_n dX11_act_5 rfl ?_
  refine h_cS1 dX11_act_6 k4_72 oSX11_isShelf rfl ?_
  refine c_X11_isShelf (fun b1 => ?_) (fun b1 => ?_)
  · refine h_ifeq (tgt := 21) dX11_act_9 rfl (fun c => absurd c (by decide)) (fun _ => ?_)
    refine h_iload_n dX11_act_12 rfl ?_
    refine h_iconst dX11_act_13 ci_0 ?_
    refine h_iconst dX11_act_14 ci_3 ?_
    refine h_cS3 dX11_act_15 k2_154 oSX11_within rfl ?_
    refine c_X11_within (fun b2 => ?_) (fun b2 => ?_)
    · refine h_ifne (tgt := 23) dX11_act_18 rfl (fun _ => ?_) (fun c => absurd c (by decide))
      refine h_aload_n dX11_act_23 rfl ?_
      refine h_iload_n dX11_act_24 rfl ?_
      refine h_cV1 dX11_act_25 k4_94 oVX11_thingOn rfl rfl ?_
      refine c_thing5 (I := I) hG hH hs hi e0 e9 ek ?_
      refine h_astore dX11_act_28 (Nat.le_of_ble_eq_true rfl) ?_
      refine h_aload dX11_act_30 rfl ?_
      refine h_ifnonnull (tgt := 37) dX11_act_32 rfl ?_
      refine h_aload_n dX11_act_37 rfl ?_
      refine h_aload dX11_act_38 rfl ?_
      refine h_putR dX11_act_40 f_X11_79_9 p_X11_9_17 (fun h => by cases h) rfl ?_
      rw [hRR_lt]
      refine h_iload_n dX11_act_43 rfl ?_
      refine h_tableIn (off := 28) (tgt := 72) dX11_act_44 (by decide) (by decide) (by decide) rfl ?_
      refine h_aload dX11_act_72 rfl ?_
      refine h_iload_n dX11_act_74 rfl ?_
      refine h_cU1 dX11_act_75 k4_108 oU_X9_sees_X2 rfl rfl ?_
      refine t5_X2_sees (n := nI i) (a := sn i) (j := 0) rfl rfl rfl (by omega) ?_
      refine h_istore dX11_act_78 (Nat.le_of_ble_eq_true rfl) ?_
      refine h_goto (tgt := 113) dX11_act_80 rfl ?_
      refine h_aload dX11_act_113 rfl ?_
      refine h_getZ dX11_act_115 f_X11_343_2 rfl (show _ = nI 0 from ap_n (by decide) (by decide) rfl) ?_
      refine h_ifeq (tgt := 126) dX11_act_118 rfl (fun _ => ?_) (fun c => absurd (by decide) c)
      refine h_iload dX11_act_126 rfl ?_
      refine h_ireturn dX11_act_128 rfl ?_
      exact hQ _ (AC_of (fun x hx => by
        have h1 : x ≠ 79 := by omega
        have h2 : x ≠ 78 := by omega
        simp [upI, h1, h2, ap_o h1 h2])) (ap_c0 (by decide) rfl rfl) (fun i0 hi => ap_g0 (by decide) hi)
    · exact absurd ⟨by decide, by decide⟩ b2
  · exact absurd ⟨by rw [nI_leI (by omega) (by omega)]; omega, by rw [nI_leI (by omega) (by omega)]; omega⟩ b1
theorem oU_X9_bends_X2 : hOkU mX2_bends 1 2 ⟨"FarHeights$Thing", "bends", "(I)I"⟩ "FarHeights$Thing" := ⟨oX2_bends, k4_144, ⟨by decide +kernel, by decide +kernel, by decide +kernel⟩, k4_134, Or.inl k4_133, _, _, _, rfl, k4_143⟩
theorem c_act51 {l : Launch} {dp : Nat} {ns nl np ml nk nw : Nat} {pl fa fb sl pp pm ki fr tg wh bw : Nat → Nat} {rs sn : Nat → Int32} {fl : Nat → Bool} {qw : Nat → Nat → Nat → Nat → Bool} {I : hI} {J : hJ} {lt tx : Option Nat} {sk : Nat → Nat} {sm sz : Nat → Int32} {s : Nat} {i : Nat} {z : Int32} {Q : hQ} (hG : cG I ns nl np ml nk nw pl fa fb sl pp pm ki fr tg wh bw rs sn fl qw) (hH : cH I sk sm sz) (hs : s < 4) (hi : i < nk) (e0 : sk s = 0) (e9 : sm s = nI i) (ek : ki i = 5) (hQ : ∀ I', AC I I' → I' 78 2 = nI 8 → (∀ i, i < 8 → I' 79 i = nI (List.getD [61, 11, 60, 30, 10, 60, 30, 10] i 0)) → Q (some (.int (((nI 0 - (z + (sn i) - (nI i))) * nI 2 + (nI 0 - ((nI i) + (sn i) - (nI i))))))) hSH I' J (hRR (some 78) tx))  : HC l mX11_act (dp + 7) 0 0 [.ref 0, .int (nI s), .int (nI 1), .int z] hSH I J (hRR lt tx) Q := by
  refine HC.of (by decide +kernel) rfl (Nat.le_of_ble_eq_true rfl) ?_
  show HV l mX11_act (dp + 7) 0 0 0 [some (.ref 0), some (.int (nI s)), some (.int (nI 1)), some (.int z), none, none] [] hSH I J (hRR lt tx) Q
  obtain ⟨⟨hN, hdo, hla, hlv⟩, hw, ⟨hnp, hml, hnk, hpt, hsi, hbt⟩, ⟨hn8, hm2, hn24, hpW, hsW⟩, hL⟩ := id hG
  obtain ⟨hns, hnl, hpl, hlg⟩ := id hN
  obtain ⟨hn6, hl12, hW, hp99, hr99⟩ := id hw
  refine h_aload_n dX11_act_0 rfl ?_
  refine h_null dX11_act_1 ?_
  refine h_putN dX11_act_2 f_X11_79_9 p_X11_9_17 (fun h => by cases h) rfl ?_
  rw [hRR_lt]
  refine h_iload_n dX11_act_5 rfl ?_
  refine h_cS1 dX11_act_6 k4_72 oSX11_isShelf rfl ?_
  refine c_X11_isShelf (fun b1 => ?_) (fun b1 => ?_)
  · refine h_ifeq (tgt := 21) dX11_act_9 rfl (fun c => absurd c (by decide)) (fun _ => ?_)
    refine h_iload_n dX11_act_12 rfl ?_
    refine h_iconst dX11_act_13 ci_0 ?_
    refine h_iconst dX11_act_14 ci_3 ?_
    refine h_cS3 dX11_act_15 k2_154 oSX11_within rfl ?_
    refine c_X11_within (fun b2 => ?_) (fun b2 => ?_)
    · refine h_ifne (tgt := 23) dX11_act_18 rfl (fun _ => ?_) (fun c => absurd c (by decide))
      refine h_aload_n dX11_act_23 rfl ?_
      refine h_iload_n dX11_act_24 rfl ?_
      refine h_cV1 dX11_act_25 k4_94 oVX11_thingOn rfl rfl ?_
      refine c_thing5 (I := I) hG hH hs hi e0 e9 ek ?_
      refine h_astore dX11_act_28 (Nat.le_of_ble_eq_true rfl) ?_
      refine h_aload dX11_act_30 rfl ?_
      refine h_ifnonnull (tgt := 37) dX11_act_32 rfl ?_
      refine h_aload_n dX11_act_37 rfl ?_
      refine h_aload dX11_act_38 rfl ?_
      refine h_putR dX11_act_40 f_X11_79_9 p_X11_9_17 (fun h => by cases h) rfl ?_
      rw [hRR_lt]
      refine h_iload_n dX11_act_43 rfl ?_
      refine h_tableIn (off := 39) (tgt := 83) dX11_act_44 (by decide) (by decide) (by decide) rfl ?_
      refine h_aload dX11_act_83 rfl ?_
      refine h_iload_n dX11_act_85 rfl ?_
      refine h_cU1 dX11_act_86 k4_132 oU_X9_bends_X2 rfl rfl ?_
      refine t5_X2_bends (n := nI i) (a := sn i) (j := 0) rfl rfl rfl (by omega) ?_
      refine h_istore dX11_act_89 (Nat.le_of_ble_eq_true rfl) ?_
      refine h_goto (tgt := 113) dX11_act_91 rfl ?_
      refine h_aload dX11_act_113 rfl ?_
      refine h_getZ dX11_act_115 f_X11_343_2 rfl (show _ = nI 0 from ap_n (by decide) (by decide) rfl) ?_
      refine h_ifeq (tgt := 126) dX11_act_118 rfl (fun _ => ?_) (fun c => absurd (by decide) c)
      refine h_iload dX11_act_126 rfl ?_
      refine h_ireturn dX11_act_128 rfl ?_
      exact hQ _ (AC_of (fun x hx => by
        have h1 : x ≠ 79 := by omega
        have h2 : x ≠ 78 := by omega
        simp [upI, h1, h2, ap_o h1 h2])) (ap_c0 (by decide) rfl rfl) (fun i0 hi => ap_g0 (by decide) hi)
    · exact absurd ⟨by decide, by decide⟩ b2
  · exact absurd ⟨by rw [nI_leI (by omega) (by omega)]; omega, by rw [nI_leI (by omega) (by omega)]; omega⟩ b1
theorem oU_X9_leans_X2 : hOkU mX8_leans 1 2 ⟨"FarHeights$Thing", "leans", "(I)I"⟩ "FarHeights$Thing" := ⟨oX8_leans, k4_163, ⟨by decide +kernel, by decide +kernel, by decide +kernel⟩, k4_158, Or.inl k4_157, _, _, _, rfl, k4_166⟩
theorem c_act52 {l : Launch} {dp : Nat} {ns nl np ml nk nw : Nat} {pl fa fb sl pp pm ki fr tg wh bw : Nat → Nat} {rs sn : Nat → Int32} {fl : Nat → Bool} {qw : Nat → Nat → Nat → Nat → Bool} {I : hI} {J : hJ} {lt tx : Option Nat} {sk : Nat → Nat} {sm sz : Nat → Int32} {s : Nat} {i : Nat} {z : Int32} {Q : hQ} (hG : cG I ns nl np ml nk nw pl fa fb sl pp pm ki fr tg wh bw rs sn fl qw) (hH : cH I sk sm sz) (hs : s < 4) (hi : i < nk) (e0 : sk s = 0) (e9 : sm s = nI i) (ek : ki i = 5) (hQ : ∀ I', AC I I' → I' 78 2 = nI 1 → (∀ i, i < 1 → I' 79 i = nI (List.getD [12] i 0)) → Q (some (.int (cif (sn i = nI i) (-15) (z / ((sn i) - (nI i)))))) hSH I' J (hRR (some 78) tx))  : HC l mX11_act (dp + 7) 0 0 [.ref 0, .int (nI s), .int (nI 2), .int z] hSH I J (hRR lt tx) Q := by
  refine HC.of (by decide +kernel) rfl (Nat.le_of_ble_eq_true rfl) ?_
  show HV l mX11_act (dp + 7) 0 0 0 [some (.ref 0), some (.int (nI s)), some (.int (nI 2)), some (.int z), none, none] [] hSH I J (hRR lt tx) Q
  obtain ⟨⟨hN, hdo, hla, hlv⟩, hw, ⟨hnp, hml, hnk, hpt, hsi, hbt⟩, ⟨hn8, hm2, hn24, hpW, hsW⟩, hL⟩ := id hG
  obtain ⟨hns, hnl, hpl, hlg⟩ := id hN
  obtain ⟨hn6, hl12, hW, hp99, hr99⟩ := id hw
  refine h_aload_n dX11_act_0 rfl ?_
  refine h_null dX11_act_1 ?_
  refine h_putN dX11_act_2 f_X11_79_9 p_X11_9_17 (fun h => by cases h) rfl ?_
  rw [hRR_lt]
  refine h_iload_n dX11_act_5 rfl ?_
  refine h_cS1 dX11_act_6 k4_72 oSX11_isShelf rfl ?_
  refine c_X11_isShelf (fun b1 => ?_) (fun b1 => ?_)
  · refine h_ifeq (tgt := 21) dX11_act_9 rfl (fun c => absurd c (by decide)) (fun _ => ?_)
    refine h_iload_n dX11_act_12 rfl ?_
    refine h_iconst dX11_act_13 ci_0 ?_
    refine h_iconst dX11_act_14 ci_3 ?_
    refine h_cS3 dX11_act_15 k2_154 oSX11_within rfl ?_
    refine c_X11_within (fun b2 => ?_) (fun b2 => ?_)
    · refine h_ifne (tgt := 23) dX11_act_18 rfl (fun _ => ?_) (fun c => absurd c (by decide))
      refine h_aload_n dX11_act_23 rfl ?_
      refine h_iload_n dX11_act_24 rfl ?_
      refine h_cV1 dX11_act_25 k4_94 oVX11_thingOn rfl rfl ?_
      refine c_thing5 (I := I) hG hH hs hi e0 e9 ek ?_
      refine h_astore dX11_act_28 (Nat.le_of_ble_eq_true rfl) ?_
      refine h_aload dX11_act_30 rfl ?_
      refine h_ifnonnull (tgt := 37) dX11_act_32 rfl ?_
      refine h_aload_n dX11_act_37 rfl ?_
      refine h_aload dX11_act_38 rfl ?_
      refine h_putR dX11_act_40 f_X11_79_9 p_X11_9_17 (fun h => by cases h) rfl ?_
      rw [hRR_lt]
      refine h_iload_n dX11_act_43 rfl ?_
      refine h_tableIn (off := 50) (tgt := 94) dX11_act_44 (by decide) (by decide) (by decide) rfl ?_
      refine h_aload dX11_act_94 rfl ?_
      refine h_iload_n dX11_act_96 rfl ?_
      refine h_cU1 dX11_act_97 k4_156 oU_X9_leans_X2 rfl rfl ?_
      refine t5_X8_leans (n := nI i) (a := sn i) (j := 0) rfl rfl rfl (by omega) (fun v0 hz => ?_) (fun hz => ?_)
      · refine h_istore dX11_act_100 (Nat.le_of_ble_eq_true rfl) ?_
        refine h_goto (tgt := 113) dX11_act_102 rfl ?_
        refine h_aload dX11_act_113 rfl ?_
        refine h_getZ dX11_act_115 f_X11_343_2 rfl (show _ = nI 1 from rfl) ?_
        refine h_ifeq (tgt := 126) dX11_act_118 rfl (fun c => absurd c (by decide)) (fun _ => ?_)
        refine h_bipush dX11_act_121 cb_m15 ?_
        refine h_goto (tgt := 128) dX11_act_123 rfl ?_
        refine h_ireturn dX11_act_128 rfl ?_
        rw [cif_t hz] at hQ
        exact hQ _ (AC_of (fun x hx => by
          have h1 : x ≠ 79 := by omega
          have h2 : x ≠ 78 := by omega
          simp [upI, h1, h2, ap_o h1 h2])) ((upI_f (by decide)).trans (ap_c0 (by decide) rfl rfl)) (fun i0 hi => (congrFun (upI_n _ _ _ (by decide)) i0).trans (ap_g0 (by decide) hi))
      · refine h_istore dX11_act_100 (Nat.le_of_ble_eq_true rfl) ?_
        refine h_goto (tgt := 113) dX11_act_102 rfl ?_
        refine h_aload dX11_act_113 rfl ?_
        refine h_getZ dX11_act_115 f_X11_343_2 rfl (show _ = nI 0 from ap_n (by decide) (by decide) rfl) ?_
        refine h_ifeq (tgt := 126) dX11_act_118 rfl (fun _ => ?_) (fun c => absurd (by decide) c)
        refine h_iload dX11_act_126 rfl ?_
        refine h_ireturn dX11_act_128 rfl ?_
        rw [cif_f hz] at hQ
        exact hQ _ (AC_of (fun x hx => by
          have h1 : x ≠ 79 := by omega
          have h2 : x ≠ 78 := by omega
          simp [upI, h1, h2, ap_o h1 h2])) (ap_c0 (by decide) rfl rfl) (fun i0 hi => ap_g0 (by decide) hi)
    · exact absurd ⟨by decide, by decide⟩ b2
  · exact absurd ⟨by rw [nI_leI (by omega) (by omega)]; omega, by rw [nI_leI (by omega) (by omega)]; omega⟩ b1
theorem oU_X9_tells_X2 : hOkU mX8_tells 1 2 ⟨"FarHeights$Thing", "tells", "(I)I"⟩ "FarHeights$Thing" := ⟨oX8_tells, k4_176, ⟨by decide +kernel, by decide +kernel, by decide +kernel⟩, k4_174, Or.inl k4_173, _, _, _, rfl, k4_189⟩
theorem c_act53 {l : Launch} {dp : Nat} {ns nl np ml nk nw : Nat} {pl fa fb sl pp pm ki fr tg wh bw : Nat → Nat} {rs sn : Nat → Int32} {fl : Nat → Bool} {qw : Nat → Nat → Nat → Nat → Bool} {I : hI} {J : hJ} {lt tx : Option Nat} {sk : Nat → Nat} {sm sz : Nat → Int32} {s : Nat} {i : Nat} {z : Int32} {Q : hQ} (hG : cG I ns nl np ml nk nw pl fa fb sl pp pm ki fr tg wh bw rs sn fl qw) (hH : cH I sk sm sz) (hs : s < 4) (hi : i < nk) (e0 : sk s = 0) (e9 : sm s = nI i) (ek : ki i = 5) (hQ : ∀ I', AC I I' → I' 78 2 = nI 9 → (∀ i, i < 9 → I' 79 i = nI (List.getD [13, 61, 11, 60, 30, 10, 60, 30, 10] i 0)) → Q (some (.int ((((nI 0 - (z + (sn i) - (nI i))) * nI 2 + (nI 0 - ((nI i) + (sn i) - (nI i)))) ^^^ (nI i))))) hSH I' J (hRR (some 78) tx))  : HC l mX11_act (dp + 7) 0 0 [.ref 0, .int (nI s), .int (nI 3), .int z] hSH I J (hRR lt tx) Q := by
  refine HC.of (by decide +kernel) rfl (Nat.le_of_ble_eq_true rfl) ?_
  show HV l mX11_act (dp + 7) 0 0 0 [some (.ref 0), some (.int (nI s)), some (.int (nI 3)), some (.int z), none, none] [] hSH I J (hRR lt tx) Q
  obtain ⟨⟨hN, hdo, hla, hlv⟩, hw, ⟨hnp, hml, hnk, hpt, hsi, hbt⟩, ⟨hn8, hm2, hn24, hpW, hsW⟩, hL⟩ := id hG
  obtain ⟨hns, hnl, hpl, hlg⟩ := id hN
  obtain ⟨hn6, hl12, hW, hp99, hr99⟩ := id hw
  refine h_aload_n dX11_act_0 rfl ?_
  refine h_null dX11_act_1 ?_
  refine h_putN dX11_act_2 f_X11_79_9 p_X11_9_17 (fun h => by cases h) rfl ?_
  rw [hRR_lt]
  refine h_iload_n dX11_act_5 rfl ?_
  refine h_cS1 dX11_act_6 k4_72 oSX11_isShelf rfl ?_
  refine c_X11_isShelf (fun b1 => ?_) (fun b1 => ?_)
  · refine h_ifeq (tgt := 21) dX11_act_9 rfl (fun c => absurd c (by decide)) (fun _ => ?_)
    refine h_iload_n dX11_act_12 rfl ?_
    refine h_iconst dX11_act_13 ci_0 ?_
    refine h_iconst dX11_act_14 ci_3 ?_
    refine h_cS3 dX11_act_15 k2_154 oSX11_within rfl ?_
    refine c_X11_within (fun b2 => ?_) (fun b2 => ?_)
    · refine h_ifne (tgt := 23) dX11_act_18 rfl (fun _ => ?_) (fun c => absurd c (by decide))
      refine h_aload_n dX11_act_23 rfl ?_
      refine h_iload_n dX11_act_24 rfl ?_
      refine h_cV1 dX11_act_25 k4_94 oVX11_thingOn rfl rfl ?_
      refine c_thing5 (I := I) hG hH hs hi e0 e9 ek ?_
      refine h_astore dX11_act_28 (Nat.le_of_ble_eq_true rfl) ?_
      refine h_aload dX11_act_30 rfl ?_
      refine h_ifnonnull (tgt := 37) dX11_act_32 rfl ?_
      refine h_aload_n dX11_act_37 rfl ?_
      refine h_aload dX11_act_38 rfl ?_
      refine h_putR dX11_act_40 f_X11_79_9 p_X11_9_17 (fun h => by cases h) rfl ?_
      rw [hRR_lt]
      refine h_iload_n dX11_act_43 rfl ?_
      refine h_tableOut (tgt := 105) dX11_act_44 (by decide) rfl ?_
      refine h_aload dX11_act_105 rfl ?_
      refine h_iload_n dX11_act_107 rfl ?_
      refine h_cU1 dX11_act_108 k4_172 oU_X9_tells_X2 rfl rfl ?_
      refine t5_X8_tells (n := nI i) (a := sn i) (j := 0) rfl rfl rfl (by omega) ?_
      refine h_istore dX11_act_111 (Nat.le_of_ble_eq_true rfl) ?_
      refine h_aload dX11_act_113 rfl ?_
      refine h_getZ dX11_act_115 f_X11_343_2 rfl (show _ = nI 0 from ap_n (by decide) (by decide) rfl) ?_
      refine h_ifeq (tgt := 126) dX11_act_118 rfl (fun _ => ?_) (fun c => absurd (by decide) c)
      refine h_iload dX11_act_126 rfl ?_
      refine h_ireturn dX11_act_128 rfl ?_
      exact hQ _ (AC_of (fun x hx => by
        have h1 : x ≠ 79 := by omega
        have h2 : x ≠ 78 := by omega
        simp [upI, h1, h2, ap_o h1 h2])) (ap_c0 (by decide) rfl rfl) (fun i0 hi => ap_g0 (by decide) hi)
    · exact absurd ⟨by decide, by decide⟩ b2
  · exact absurd ⟨by rw [nI_leI (by omega) (by omega)]; omega, by rw [nI_leI (by omega) (by omega)]; omega⟩ b1
theorem oU_X9_sees_X7 : hOkU mX7_sees 1 7 ⟨"FarHeights$Thing", "sees", "(I)I"⟩ "FarHeights$Thing" := ⟨oX7_sees, k4_130, ⟨by decide +kernel, by decide +kernel, by decide +kernel⟩, k4_110, Or.inl k4_109, _, _, _, rfl, k4_129⟩
theorem c_act60 {l : Launch} {dp : Nat} {ns nl np ml nk nw : Nat} {pl fa fb sl pp pm ki fr tg wh bw : Nat → Nat} {rs sn : Nat → Int32} {fl : Nat → Bool} {qw : Nat → Nat → Nat → Nat → Bool} {I : hI} {J : hJ} {lt tx : Option Nat} {sk : Nat → Nat} {sm sz : Nat → Int32} {s : Nat} {p : Nat} {z : Int32} {Q : hQ} (hG : cG I ns nl np ml nk nw pl fa fb sl pp pm ki fr tg wh bw rs sn fl qw) (hH : cH I sk sm sz) (hs : s < 4) (hp : p < np) (e0 : sk s = 1) (e9 : sm s = nI p) (hQ : ∀ I', AC I I' → I' 80 2 = nI 1 → (∀ i, i < 1 → I' 81 i = nI (List.getD [70] i 0)) → Q (some (.int ((z * (nI (pm p)))))) hSH I' J (hRR (some 80) tx))  : HC l mX11_act (dp + 7) 0 0 [.ref 0, .int (nI s), .int (nI 0), .int z] hSH I J (hRR lt tx) Q := by
  refine HC.of (by decide +kernel) rfl (Nat.le_of_ble_eq_true rfl) ?_
  show HV l mX11_act (dp + 7) 0 0 0 [some (.ref 0), some (.int (nI s)), some (.int (nI 0)), some (.int z), none, none] [] hSH I J (hRR lt tx) Q
  obtain ⟨⟨hN, hdo, hla, hlv⟩, hw, ⟨hnp, hml, hnk, hpt, hsi, hbt⟩, ⟨hn8, hm2, hn24, hpW, hsW⟩, hL⟩ := id hG
  obtain ⟨hns, hnl, hpl, hlg⟩ := id hN
  obtain ⟨hn6, hl12, hW, hp99, hr99⟩ := id hw
  refine h_aload_n dX11_act_0 rfl ?_
  refine h_null dX11_act_1 ?_
  refine h_putN dX11_act_2 f_X11_79_9 p_X11_9_17 (fun h => by cases h) rfl ?_
  rw [hRR_lt]
  refine h_iload_n dX11_act_5 rfl ?_
  refine h_cS1 dX11_act_6 k4_72 oSX11_isShelf rfl ?_
  refine c_X11_isShelf (fun b1 => ?_) (fun b1 => ?_)
  · refine h_ifeq (tgt := 21) dX11_act_9 rfl (fun c => absurd c (by decide)) (fun _ => ?_)
    refine h_iload_n dX11_act_12 rfl ?_
    refine h_iconst dX11_act_13 ci_0 ?_
    refine h_iconst dX11_act_14 ci_3 ?_
    refine h_cS3 dX11_act_15 k2_154 oSX11_within rfl ?_
    refine c_X11_within (fun b2 => ?_) (fun b2 => ?_)
    · refine h_ifne (tgt := 23) dX11_act_18 rfl (fun _ => ?_) (fun c => absurd c (by decide))
      refine h_aload_n dX11_act_23 rfl ?_
      refine h_iload_n dX11_act_24 rfl ?_
      refine h_cV1 dX11_act_25 k4_94 oVX11_thingOn rfl rfl ?_
      refine c_thing6 (I := I) hG hH hs hp e0 e9 ?_
      refine h_astore dX11_act_28 (Nat.le_of_ble_eq_true rfl) ?_
      refine h_aload dX11_act_30 rfl ?_
      refine h_ifnonnull (tgt := 37) dX11_act_32 rfl ?_
      refine h_aload_n dX11_act_37 rfl ?_
      refine h_aload dX11_act_38 rfl ?_
      refine h_putR dX11_act_40 f_X11_79_9 p_X11_9_17 (fun h => by cases h) rfl ?_
      rw [hRR_lt]
      refine h_iload_n dX11_act_43 rfl ?_
      refine h_tableIn (off := 28) (tgt := 72) dX11_act_44 (by decide) (by decide) (by decide) rfl ?_
      refine h_aload dX11_act_72 rfl ?_
      refine h_iload_n dX11_act_74 rfl ?_
      refine h_cU1 dX11_act_75 k4_108 oU_X9_sees_X7 rfl rfl ?_
      refine t6_X7_sees (n := nI p) (a := nI (pm p)) (j := 0) rfl rfl rfl (by omega) ?_
      refine h_istore dX11_act_78 (Nat.le_of_ble_eq_true rfl) ?_
      refine h_goto (tgt := 113) dX11_act_80 rfl ?_
      refine h_aload dX11_act_113 rfl ?_
      refine h_getZ dX11_act_115 f_X11_343_7 rfl (show _ = nI 0 from ap_n (by decide) (by decide) rfl) ?_
      refine h_ifeq (tgt := 126) dX11_act_118 rfl (fun _ => ?_) (fun c => absurd (by decide) c)
      refine h_iload dX11_act_126 rfl ?_
      refine h_ireturn dX11_act_128 rfl ?_
      exact hQ _ (AC_of (fun x hx => by
        have h1 : x ≠ 81 := by omega
        have h2 : x ≠ 80 := by omega
        simp [upI, h1, h2, ap_o h1 h2])) (ap_c0 (by decide) rfl rfl) (fun i0 hi => ap_g0 (by decide) hi)
    · exact absurd ⟨by decide, by decide⟩ b2
  · exact absurd ⟨by rw [nI_leI (by omega) (by omega)]; omega, by rw [nI_leI (by omega) (by omega)]; omega⟩ b1
theorem oU_X9_bends_X7 : hOkU mX7_bends 1 7 ⟨"FarHeights$Thing", "bends", "(I)I"⟩ "FarHeights$Thing" := ⟨oX7_bends, k4_153, ⟨by decide +kernel, by decide +kernel, by decide +kernel⟩, k4_134, Or.inl k4_133, _, _, _, rfl, k4_152⟩
theorem c_act61 {l : Launch} {dp : Nat} {ns nl np ml nk nw : Nat} {pl fa fb sl pp pm ki fr tg wh bw : Nat → Nat} {rs sn : Nat → Int32} {fl : Nat → Bool} {qw : Nat → Nat → Nat → Nat → Bool} {I : hI} {J : hJ} {lt tx : Option Nat} {sk : Nat → Nat} {sm sz : Nat → Int32} {s : Nat} {p : Nat} {z : Int32} {Q : hQ} (hG : cG I ns nl np ml nk nw pl fa fb sl pp pm ki fr tg wh bw rs sn fl qw) (hH : cH I sk sm sz) (hs : s < 4) (hp : p < np) (e0 : sk s = 1) (e9 : sm s = nI p) (hQ : ∀ I', AC I I' → I' 80 2 = nI 2 → (∀ i, i < 2 → I' 81 i = nI (List.getD [71, 70] i 0)) → Q (some (.int (((z * (nI (pm p))) - (nI p))))) hSH I' J (hRR (some 80) tx))  : HC l mX11_act (dp + 7) 0 0 [.ref 0, .int (nI s), .int (nI 1), .int z] hSH I J (hRR lt tx) Q := by
  refine HC.of (by decide +kernel) rfl (Nat.le_of_ble_eq_true rfl) ?_
  show HV l mX11_act (dp + 7) 0 0 0 [some (.ref 0), some (.int (nI s)), some (.int (nI 1)), some (.int z), none, none] [] hSH I J (hRR lt tx) Q
  obtain ⟨⟨hN, hdo, hla, hlv⟩, hw, ⟨hnp, hml, hnk, hpt, hsi, hbt⟩, ⟨hn8, hm2, hn24, hpW, hsW⟩, hL⟩ := id hG
  obtain ⟨hns, hnl, hpl, hlg⟩ := id hN
  obtain ⟨hn6, hl12, hW, hp99, hr99⟩ := id hw
  refine h_aload_n dX11_act_0 rfl ?_
  refine h_null dX11_act_1 ?_
  refine h_putN dX11_act_2 f_X11_79_9 p_X11_9_17 (fun h => by cases h) rfl ?_
  rw [hRR_lt]
  refine h_iload_n dX11_act_5 rfl ?_
  refine h_cS1 dX11_act_6 k4_72 oSX11_isShelf rfl ?_
  refine c_X11_isShelf (fun b1 => ?_) (fun b1 => ?_)
  · refine h_ifeq (tgt := 21) dX11_act_9 rfl (fun c => absurd c (by decide)) (fun _ => ?_)
    refine h_iload_n dX11_act_12 rfl ?_
    refine h_iconst dX11_act_13 ci_0 ?_
    refine h_iconst dX11_act_14 ci_3 ?_
    refine h_cS3 dX11_act_15 k2_154 oSX11_within rfl ?_
    refine c_X11_within (fun b2 => ?_) (fun b2 => ?_)
    · refine h_ifne (tgt := 23) dX11_act_18 rfl (fun _ => ?_) (fun c => absurd c (by decide))
      refine h_aload_n dX11_act_23 rfl ?_
      refine h_iload_n dX11_act_24 rfl ?_
      refine h_cV1 dX11_act_25 k4_94 oVX11_thingOn rfl rfl ?_
      refine c_thing6 (I := I) hG hH hs hp e0 e9 ?_
      refine h_astore dX11_act_28 (Nat.le_of_ble_eq_true rfl) ?_
      refine h_aload dX11_act_30 rfl ?_
      refine h_ifnonnull (tgt := 37) dX11_act_32 rfl ?_
      refine h_aload_n dX11_act_37 rfl ?_
      refine h_aload dX11_act_38 rfl ?_
      refine h_putR dX11_act_40 f_X11_79_9 p_X11_9_17 (fun h => by cases h) rfl ?_
      rw [hRR_lt]
      refine h_iload_n dX11_act_43 rfl ?_
      refine h_tableIn (off := 39) (tgt := 83) dX11_act_44 (by decide) (by decide) (by decide) rfl ?_
      refine h_aload dX11_act_83 rfl ?_
      refine h_iload_n dX11_act_85 rfl ?_
      refine h_cU1 dX11_act_86 k4_132 oU_X9_bends_X7 rfl rfl ?_
      refine t6_X7_bends (n := nI p) (a := nI (pm p)) (j := 0) rfl rfl rfl (by omega) ?_
      refine h_istore dX11_act_89 (Nat.le_of_ble_eq_true rfl) ?_
      refine h_goto (tgt := 113) dX11_act_91 rfl ?_
      refine h_aload dX11_act_113 rfl ?_
      refine h_getZ dX11_act_115 f_X11_343_7 rfl (show _ = nI 0 from ap_n (by decide) (by decide) rfl) ?_
      refine h_ifeq (tgt := 126) dX11_act_118 rfl (fun _ => ?_) (fun c => absurd (by decide) c)
      refine h_iload dX11_act_126 rfl ?_
      refine h_ireturn dX11_act_128 rfl ?_
      exact hQ _ (AC_of (fun x hx => by
        have h1 : x ≠ 81 := by omega
        have h2 : x ≠ 80 := by omega
        simp [upI, h1, h2, ap_o h1 h2])) (ap_c0 (by decide) rfl rfl) (fun i0 hi => ap_g0 (by decide) hi)
    · exact absurd ⟨by decide, by decide⟩ b2
  · exact absurd ⟨by rw [nI_leI (by omega) (by omega)]; omega, by rw [nI_leI (by omega) (by omega)]; omega⟩ b1
theorem oU_X9_leans_X7 : hOkU mX7_leans 1 7 ⟨"FarHeights$Thing", "leans", "(I)I"⟩ "FarHeights$Thing" := ⟨oX7_leans, k4_170, ⟨by decide +kernel, by decide +kernel, by decide +kernel⟩, k4_158, Or.inl k4_157, _, _, _, rfl, k4_169⟩
theorem c_act62 {l : Launch} {dp : Nat} {ns nl np ml nk nw : Nat} {pl fa fb sl pp pm ki fr tg wh bw : Nat → Nat} {rs sn : Nat → Int32} {fl : Nat → Bool} {qw : Nat → Nat → Nat → Nat → Bool} {I : hI} {J : hJ} {lt tx : Option Nat} {sk : Nat → Nat} {sm sz : Nat → Int32} {s : Nat} {p : Nat} {z : Int32} {Q : hQ} (hG : cG I ns nl np ml nk nw pl fa fb sl pp pm ki fr tg wh bw rs sn fl qw) (hH : cH I sk sm sz) (hs : s < 4) (hp : p < np) (e0 : sk s = 1) (e9 : sm s = nI p) (hQ : ∀ I', AC I I' → I' 80 2 = nI 1 → (∀ i, i < 1 → I' 81 i = nI (List.getD [72] i 0)) → Q (some (.int ((z ||| (nI (pm p)))))) hSH I' J (hRR (some 80) tx))  : HC l mX11_act (dp + 7) 0 0 [.ref 0, .int (nI s), .int (nI 2), .int z] hSH I J (hRR lt tx) Q := by
  refine HC.of (by decide +kernel) rfl (Nat.le_of_ble_eq_true rfl) ?_
  show HV l mX11_act (dp + 7) 0 0 0 [some (.ref 0), some (.int (nI s)), some (.int (nI 2)), some (.int z), none, none] [] hSH I J (hRR lt tx) Q
  obtain ⟨⟨hN, hdo, hla, hlv⟩, hw, ⟨hnp, hml, hnk, hpt, hsi, hbt⟩, ⟨hn8, hm2, hn24, hpW, hsW⟩, hL⟩ := id hG
  obtain ⟨hns, hnl, hpl, hlg⟩ := id hN
  obtain ⟨hn6, hl12, hW, hp99, hr99⟩ := id hw
  refine h_aload_n dX11_act_0 rfl ?_
  refine h_null dX11_act_1 ?_
  refine h_putN dX11_act_2 f_X11_79_9 p_X11_9_17 (fun h => by cases h) rfl ?_
  rw [hRR_lt]
  refine h_iload_n dX11_act_5 rfl ?_
  refine h_cS1 dX11_act_6 k4_72 oSX11_isShelf rfl ?_
  refine c_X11_isShelf (fun b1 => ?_) (fun b1 => ?_)
  · refine h_ifeq (tgt := 21) dX11_act_9 rfl (fun c => absurd c (by decide)) (fun _ => ?_)
    refine h_iload_n dX11_act_12 rfl ?_
    refine h_iconst dX11_act_13 ci_0 ?_
    refine h_iconst dX11_act_14 ci_3 ?_
    refine h_cS3 dX11_act_15 k2_154 oSX11_within rfl ?_
    refine c_X11_within (fun b2 => ?_) (fun b2 => ?_)
    · refine h_ifne (tgt := 23) dX11_act_18 rfl (fun _ => ?_) (fun c => absurd c (by decide))
      refine h_aload_n dX11_act_23 rfl ?_
      refine h_iload_n dX11_act_24 rfl ?_
      refine h_cV1 dX11_act_25 k4_94 oVX11_thingOn rfl rfl ?_
      refine c_thing6 (I := I) hG hH hs hp e0 e9 ?_
      refine h_astore dX11_act_28 (Nat.le_of_ble_eq_true rfl) ?_
      refine h_aload dX11_act_30 rfl ?_
      refine h_ifnonnull (tgt := 37) dX11_act_32 rfl ?_
      refine h_aload_n dX11_act_37 rfl ?_
      refine h_aload dX11_act_38 rfl ?_
      refine h_putR dX11_act_40 f_X11_79_9 p_X11_9_17 (fun h => by cases h) rfl ?_
      rw [hRR_lt]
      refine h_iload_n dX11_act_43 rfl ?_
      refine h_tableIn (off := 50) (tgt := 94) dX11_act_44 (by decide) (by decide) (by decide) rfl ?_
      refine h_aload dX11_act_94 rfl ?_
      refine h_iload_n dX11_act_96 rfl ?_
      refine h_cU1 dX11_act_97 k4_156 oU_X9_leans_X7 rfl rfl ?_
      refine t6_X7_leans (n := nI p) (a := nI (pm p)) (j := 0) rfl rfl rfl (by omega) ?_
      refine h_istore dX11_act_100 (Nat.le_of_ble_eq_true rfl) ?_
      refine h_goto (tgt := 113) dX11_act_102 rfl ?_
      refine h_aload dX11_act_113 rfl ?_
      refine h_getZ dX11_act_115 f_X11_343_7 rfl (show _ = nI 0 from ap_n (by decide) (by decide) rfl) ?_
      refine h_ifeq (tgt := 126) dX11_act_118 rfl (fun _ => ?_) (fun c => absurd (by decide) c)
      refine h_iload dX11_act_126 rfl ?_
      refine h_ireturn dX11_act_128 rfl ?_
      exact hQ _ (AC_of (fun x hx => by
        have h1 : x ≠ 81 := by omega
        have h2 : x ≠ 80 := by omega
        simp [upI, h1, h2, ap_o h1 h2])) (ap_c0 (by decide) rfl rfl) (fun i0 hi => ap_g0 (by decide) hi)
    · exact absurd ⟨by decide, by decide⟩ b2
  · exact absurd ⟨by rw [nI_leI (by omega) (by omega)]; omega, by rw [nI_leI (by omega) (by omega)]; omega⟩ b1
theorem oU_X9_tells_X7 : hOkU mX7_tells 1 7 ⟨"FarHeights$Thing", "tells", "(I)I"⟩ "FarHeights$Thing" := ⟨oX7_tells, k4_193, ⟨by decide +kernel, by decide +kernel, by decide +kernel⟩, k4_174, Or.inl k4_173, _, _, _, rfl, k4_192⟩
theorem c_act63 {l : Launch} {dp : Nat} {ns nl np ml nk nw : Nat} {pl fa fb sl pp pm ki fr tg wh bw : Nat → Nat} {rs sn : Nat → Int32} {fl : Nat → Bool} {qw : Nat → Nat → Nat → Nat → Bool} {I : hI} {J : hJ} {lt tx : Option Nat} {sk : Nat → Nat} {sm sz : Nat → Int32} {s : Nat} {p : Nat} {z : Int32} {Q : hQ} (hG : cG I ns nl np ml nk nw pl fa fb sl pp pm ki fr tg wh bw rs sn fl qw) (hH : cH I sk sm sz) (hs : s < 4) (hp : p < np) (e0 : sk s = 1) (e9 : sm s = nI p) (hQ : ∀ I', AC I I' → I' 80 2 = nI 4 → (∀ i, i < 4 → I' 81 i = nI (List.getD [73, 71, 70, 72] i 0)) → Q (some (.int ((((z * (nI (pm p))) - (nI p)) + ((nI p) ||| (nI (pm p))))))) hSH I' J (hRR (some 80) tx))  : HC l mX11_act (dp + 7) 0 0 [.ref 0, .int (nI s), .int (nI 3), .int z] hSH I J (hRR lt tx) Q := by
  refine HC.of (by decide +kernel) rfl (Nat.le_of_ble_eq_true rfl) ?_
  show HV l mX11_act (dp + 7) 0 0 0 [some (.ref 0), some (.int (nI s)), some (.int (nI 3)), some (.int z), none, none] [] hSH I J (hRR lt tx) Q
  obtain ⟨⟨hN, hdo, hla, hlv⟩, hw, ⟨hnp, hml, hnk, hpt, hsi, hbt⟩, ⟨hn8, hm2, hn24, hpW, hsW⟩, hL⟩ := id hG
  obtain ⟨hns, hnl, hpl, hlg⟩ := id hN
  obtain ⟨hn6, hl12, hW, hp99, hr99⟩ := id hw
  refine h_aload_n dX11_act_0 rfl ?_
  refine h_null dX11_act_1 ?_
  refine h_putN dX11_act_2 f_X11_79_9 p_X11_9_17 (fun h => by cases h) rfl ?_
  rw [hRR_lt]
  refine h_iload_n dX11_act_5 rfl ?_
  refine h_cS1 dX11_act_6 k4_72 oSX11_isShelf rfl ?_
  refine c_X11_isShelf (fun b1 => ?_) (fun b1 => ?_)
  · refine h_ifeq (tgt := 21) dX11_act_9 rfl (fun c => absurd c (by decide)) (fun _ => ?_)
    refine h_iload_n dX11_act_12 rfl ?_
    refine h_iconst dX11_act_13 ci_0 ?_
    refine h_iconst dX11_act_14 ci_3 ?_
    refine h_cS3 dX11_act_15 k2_154 oSX11_within rfl ?_
    refine c_X11_within (fun b2 => ?_) (fun b2 => ?_)
    · refine h_ifne (tgt := 23) dX11_act_18 rfl (fun _ => ?_) (fun c => absurd c (by decide))
      refine h_aload_n dX11_act_23 rfl ?_
      refine h_iload_n dX11_act_24 rfl ?_
      refine h_cV1 dX11_act_25 k4_94 oVX11_thingOn rfl rfl ?_
      refine c_thing6 (I := I) hG hH hs hp e0 e9 ?_
      refine h_astore dX11_act_28 (Nat.le_of_ble_eq_true rfl) ?_
      refine h_aload dX11_act_30 rfl ?_
      refine h_ifnonnull (tgt := 37) dX11_act_32 rfl ?_
      refine h_aload_n dX11_act_37 rfl ?_
      refine h_aload dX11_act_38 rfl ?_
      refine h_putR dX11_act_40 f_X11_79_9 p_X11_9_17 (fun h => by cases h) rfl ?_
      rw [hRR_lt]
      refine h_iload_n dX11_act_43 rfl ?_
      refine h_tableOut (tgt := 105) dX11_act_44 (by decide) rfl ?_
      refine h_aload dX11_act_105 rfl ?_
      refine h_iload_n dX11_act_107 rfl ?_
      refine h_cU1 dX11_act_108 k4_172 oU_X9_tells_X7 rfl rfl ?_
      refine t6_X7_tells (n := nI p) (a := nI (pm p)) (j := 0) rfl rfl rfl (by omega) ?_
      refine h_istore dX11_act_111 (Nat.le_of_ble_eq_true rfl) ?_
      refine h_aload dX11_act_113 rfl ?_
      refine h_getZ dX11_act_115 f_X11_343_7 rfl (show _ = nI 0 from ap_n (by decide) (by decide) rfl) ?_
      refine h_ifeq (tgt := 126) dX11_act_118 rfl (fun _ => ?_) (fun c => absurd (by decide) c)
      refine h_iload dX11_act_126 rfl ?_
      refine h_ireturn dX11_act_128 rfl ?_
      exact hQ _ (AC_of (fun x hx => by
        have h1 : x ≠ 81 := by omega
        have h2 : x ≠ 80 := by omega
        simp [upI, h1, h2, ap_o h1 h2])) (ap_c0 (by decide) rfl rfl) (fun i0 hi => ap_g0 (by decide) hi)
    · exact absurd ⟨by decide, by decide⟩ b2
  · exact absurd ⟨by rw [nI_leI (by omega) (by omega)]; omega, by rw [nI_leI (by omega) (by omega)]; omega⟩ b1
