theorem rng_ex {a b : Nat} {x : Int32} (ha : a < 2147483648) (hb : b < 2147483648) (h1 : nI a ≤ x) (h2 : x ≤ nI b) : ∃ n, x = nI n ∧ a ≤ n ∧ n ≤ b := by
  have h1 := Int32.le_iff_toInt_le.mp h1
  have h2 := Int32.le_iff_toInt_le.mp h2
  rw [nI_toInt (by omega)] at h1 h2
  obtain ⟨n, hn, rfl⟩ := nI_of (x := x) (by intro q; have := Int32.lt_iff_toInt_lt.mp q; simp at this; omega)
  rw [nI_toInt hn] at h1 h2
  exact ⟨n, rfl, by omega, by omega⟩
def isWh (x : Int32) : Prop := ∃ w, x = nI w ∧ w / 100 ≤ 23 ∧ w % 100 ≤ 40
theorem c_isStation {l : Launch} {dp : Nat} {n : Nat} {x : Int32} {I : hI} {J : hJ} {lt tx : Option Nat} {Q : hQ} (hn : I 2 0 = nI n) (hb : n ≤ 1000) (h1 : isIx x n → Q (some (.int (nI 1))) hSH I J (hRR lt tx)) (h0 : ¬ isIx x n → Q (some (.int (nI 0))) hSH I J (hRR lt tx)) : HC l mX11_isStation (dp + 1) 0 0 [.ref 0, .int x] hSH I J (hRR lt tx) Q := by
  refine HC.of (by decide +kernel) rfl (Nat.le_of_ble_eq_true rfl) ?_
  show HV l mX11_isStation (dp + 1) 0 0 0 [some (.ref 0), some (.int x)] [] hSH I J (hRR lt tx) Q
  refine h_iload_n dX11_isStation_0 rfl ?_
  refine h_iconst dX11_isStation_1 ci_0 ?_
  refine h_aload_n dX11_isStation_2 rfl ?_
  refine h_getR dX11_isStation_3 f_X11_20_9 rfl rfl ?_
  refine h_getI dX11_isStation_6 f_X11_105_5 rfl hn ?_
  refine h_iconst dX11_isStation_9 ci_1 ?_
  refine h_isub dX11_isStation_10 ?_
  refine h_cS3 dX11_isStation_11 k2_154 oSX11_within rfl ?_
  refine c_X11_within (fun b1 => ?_) (fun b1 => ?_)
  · refine h_zreturn dX11_isStation_14 rfl (by decide) ?_
    exact h1 ((isIx_iff (by omega)).mp b1)
  · refine h_zreturn dX11_isStation_14 rfl (by decide) ?_
    exact h0 (fun z => b1 ((isIx_iff (by omega)).mpr z))
theorem c_isPoint {l : Launch} {dp : Nat} {n : Nat} {x : Int32} {I : hI} {J : hJ} {lt tx : Option Nat} {Q : hQ} (hn : I 1 2 = nI n) (hb : n ≤ 1000) (h1 : isIx x n → Q (some (.int (nI 1))) hSH I J (hRR lt tx)) (h0 : ¬ isIx x n → Q (some (.int (nI 0))) hSH I J (hRR lt tx)) : HC l mX11_isPoint (dp + 1) 0 0 [.ref 0, .int x] hSH I J (hRR lt tx) Q := by
  refine HC.of (by decide +kernel) rfl (Nat.le_of_ble_eq_true rfl) ?_
  show HV l mX11_isPoint (dp + 1) 0 0 0 [some (.ref 0), some (.int x)] [] hSH I J (hRR lt tx) Q
  refine h_iload_n dX11_isPoint_0 rfl ?_
  refine h_iconst dX11_isPoint_1 ci_0 ?_
  refine h_aload_n dX11_isPoint_2 rfl ?_
  refine h_getR dX11_isPoint_3 f_X11_10_9 rfl rfl ?_
  refine h_getI dX11_isPoint_6 f_X11_166_8 rfl hn ?_
  refine h_iconst dX11_isPoint_9 ci_1 ?_
  refine h_isub dX11_isPoint_10 ?_
  refine h_cS3 dX11_isPoint_11 k2_154 oSX11_within rfl ?_
  refine c_X11_within (fun b1 => ?_) (fun b1 => ?_)
  · refine h_zreturn dX11_isPoint_14 rfl (by decide) ?_
    exact h1 ((isIx_iff (by omega)).mp b1)
  · refine h_zreturn dX11_isPoint_14 rfl (by decide) ?_
    exact h0 (fun z => b1 ((isIx_iff (by omega)).mpr z))
theorem c_isSight {l : Launch} {dp : Nat} {n : Nat} {x : Int32} {I : hI} {J : hJ} {lt tx : Option Nat} {Q : hQ} (hn : I 1 6 = nI n) (hb : n ≤ 1000) (h1 : isIx x n → Q (some (.int (nI 1))) hSH I J (hRR lt tx)) (h0 : ¬ isIx x n → Q (some (.int (nI 0))) hSH I J (hRR lt tx)) : HC l mX11_isSight (dp + 1) 0 0 [.ref 0, .int x] hSH I J (hRR lt tx) Q := by
  refine HC.of (by decide +kernel) rfl (Nat.le_of_ble_eq_true rfl) ?_
  show HV l mX11_isSight (dp + 1) 0 0 0 [some (.ref 0), some (.int x)] [] hSH I J (hRR lt tx) Q
  refine h_iload_n dX11_isSight_0 rfl ?_
  refine h_iconst dX11_isSight_1 ci_0 ?_
  refine h_aload_n dX11_isSight_2 rfl ?_
  refine h_getR dX11_isSight_3 f_X11_10_9 rfl rfl ?_
  refine h_getI dX11_isSight_6 f_X11_191_8 rfl hn ?_
  refine h_iconst dX11_isSight_9 ci_1 ?_
  refine h_isub dX11_isSight_10 ?_
  refine h_cS3 dX11_isSight_11 k2_154 oSX11_within rfl ?_
  refine c_X11_within (fun b1 => ?_) (fun b1 => ?_)
  · refine h_zreturn dX11_isSight_14 rfl (by decide) ?_
    exact h1 ((isIx_iff (by omega)).mp b1)
  · refine h_zreturn dX11_isSight_14 rfl (by decide) ?_
    exact h0 (fun z => b1 ((isIx_iff (by omega)).mpr z))
theorem r_isStation {l : Launch} {dp : Nat} {n : Nat} {x : Int32} {I : hI} {J : hJ} {lt tx : Option Nat} {Q : hQ} (hn : I 82 0 = nI n) (hb : n ≤ 1000) (h1 : isIx x n → Q (some (.int (nI 1))) hSH I J (hRR lt tx)) (h0 : ¬ isIx x n → Q (some (.int (nI 0))) hSH I J (hRR lt tx)) : HC l mX12_isStation (dp + 1) 0 0 [.ref 82, .int x] hSH I J (hRR lt tx) Q := by
  refine HC.of (by decide +kernel) rfl (Nat.le_of_ble_eq_true rfl) ?_
  show HV l mX12_isStation (dp + 1) 0 0 0 [some (.ref 82), some (.int x)] [] hSH I J (hRR lt tx) Q
  refine h_iload_n dX12_isStation_0 rfl ?_
  refine h_iconst dX12_isStation_1 ci_0 ?_
  refine h_aload_n dX12_isStation_2 rfl ?_
  refine h_getI dX12_isStation_3 f_X12_102_10 rfl hn ?_
  refine h_iconst dX12_isStation_6 ci_1 ?_
  refine h_isub dX12_isStation_7 ?_
  refine h_cS3 dX12_isStation_8 k5_172 oSX12_in rfl ?_
  refine c_X12_in (fun b1 => ?_) (fun b1 => ?_)
  · refine h_zreturn dX12_isStation_11 rfl (by decide) ?_
    exact h1 ((isIx_iff (by omega)).mp b1)
  · refine h_zreturn dX12_isStation_11 rfl (by decide) ?_
    exact h0 (fun z => b1 ((isIx_iff (by omega)).mpr z))
theorem r_isPoint {l : Launch} {dp : Nat} {n : Nat} {x : Int32} {I : hI} {J : hJ} {lt tx : Option Nat} {Q : hQ} (hn : I 82 4 = nI n) (hb : n ≤ 1000) (h1 : isIx x n → Q (some (.int (nI 1))) hSH I J (hRR lt tx)) (h0 : ¬ isIx x n → Q (some (.int (nI 0))) hSH I J (hRR lt tx)) : HC l mX12_isPoint (dp + 1) 0 0 [.ref 82, .int x] hSH I J (hRR lt tx) Q := by
  refine HC.of (by decide +kernel) rfl (Nat.le_of_ble_eq_true rfl) ?_
  show HV l mX12_isPoint (dp + 1) 0 0 0 [some (.ref 82), some (.int x)] [] hSH I J (hRR lt tx) Q
  refine h_iload_n dX12_isPoint_0 rfl ?_
  refine h_iconst dX12_isPoint_1 ci_0 ?_
  refine h_aload_n dX12_isPoint_2 rfl ?_
  refine h_getI dX12_isPoint_3 f_X12_110_10 rfl hn ?_
  refine h_iconst dX12_isPoint_6 ci_1 ?_
  refine h_isub dX12_isPoint_7 ?_
  refine h_cS3 dX12_isPoint_8 k5_172 oSX12_in rfl ?_
  refine c_X12_in (fun b1 => ?_) (fun b1 => ?_)
  · refine h_zreturn dX12_isPoint_11 rfl (by decide) ?_
    exact h1 ((isIx_iff (by omega)).mp b1)
  · refine h_zreturn dX12_isPoint_11 rfl (by decide) ?_
    exact h0 (fun z => b1 ((isIx_iff (by omega)).mpr z))
theorem r_isSight {l : Launch} {dp : Nat} {n : Nat} {x : Int32} {I : hI} {J : hJ} {lt tx : Option Nat} {Q : hQ} (hn : I 82 7 = nI n) (hb : n ≤ 1000) (h1 : isIx x n → Q (some (.int (nI 1))) hSH I J (hRR lt tx)) (h0 : ¬ isIx x n → Q (some (.int (nI 0))) hSH I J (hRR lt tx)) : HC l mX12_isSight (dp + 1) 0 0 [.ref 82, .int x] hSH I J (hRR lt tx) Q := by
  refine HC.of (by decide +kernel) rfl (Nat.le_of_ble_eq_true rfl) ?_
  show HV l mX12_isSight (dp + 1) 0 0 0 [some (.ref 82), some (.int x)] [] hSH I J (hRR lt tx) Q
  refine h_iload_n dX12_isSight_0 rfl ?_
  refine h_iconst dX12_isSight_1 ci_0 ?_
  refine h_aload_n dX12_isSight_2 rfl ?_
  refine h_getI dX12_isSight_3 f_X12_113_10 rfl hn ?_
  refine h_iconst dX12_isSight_6 ci_1 ?_
  refine h_isub dX12_isSight_7 ?_
  refine h_cS3 dX12_isSight_8 k5_172 oSX12_in rfl ?_
  refine c_X12_in (fun b1 => ?_) (fun b1 => ?_)
  · refine h_zreturn dX12_isSight_11 rfl (by decide) ?_
    exact h1 ((isIx_iff (by omega)).mp b1)
  · refine h_zreturn dX12_isSight_11 rfl (by decide) ?_
    exact h0 (fun z => b1 ((isIx_iff (by omega)).mpr z))
theorem c_isWhen {l : Launch} {dp : Nat} {x : Int32} {sh : hS} {I : hI} {J : hJ} {R : hR} {Q : hQ} (h1 : ∀ w, x = nI w → w / 100 ≤ 23 → w % 100 ≤ 40 → Q (some (.int (nI 1))) sh I J R) (h0 : ¬ isWh x → Q (some (.int (nI 0))) sh I J R) : HC l mX11_isWhen dp 0 0 [.int x] sh I J R Q := by
  refine HC.of (by decide +kernel) rfl (Nat.le_of_ble_eq_true rfl) ?_
  show HV l mX11_isWhen dp 0 0 0 [some (.int x)] [] sh I J R Q
  refine h_iload_n dX11_isWhen_0 rfl ?_
  refine h_iflt (tgt := 26) dX11_isWhen_1 rfl (fun c_1 => ?_) (fun c_1 => ?_)
  · refine h_iconst dX11_isWhen_26 ci_0 ?_
    refine h_zreturn dX11_isWhen_27 rfl (by decide) ?_
    exact h0 (by
      rintro ⟨w2, e, e1, e2⟩
      rw [e] at c_1
      exact absurd c_1 (nI_pos (by omega)))
  · obtain ⟨w, hw, rfl⟩ := nI_of (x := x) c_1
    refine h_iload_n dX11_isWhen_4 rfl ?_
    refine h_bipush dX11_isWhen_5 cb_100 ?_
    refine h_idivN dX11_isWhen_7 (by omega) (by omega) (by omega) ?_
    refine h_bipush dX11_isWhen_8 cb_23 ?_
    refine h_icmpgt (tgt := 26) dX11_isWhen_10 rfl (fun c_10 => ?_) (fun c_10 => ?_)
    · rw [nI_ltI (by omega) (by omega)] at c_10
      refine h_iconst dX11_isWhen_26 ci_0 ?_
      refine h_zreturn dX11_isWhen_27 rfl (by decide) ?_
      exact h0 (by
        rintro ⟨w2, e, e1, e2⟩
        rw [nI_eq (by omega) (by omega)] at e
        subst e
        omega)
    · rw [nI_ltI (by omega) (by omega)] at c_10
      refine h_iload_n dX11_isWhen_13 rfl ?_
      refine h_bipush dX11_isWhen_14 cb_100 ?_
      refine h_iremN dX11_isWhen_16 (by omega) (by omega) (by omega) ?_
      refine h_bipush dX11_isWhen_17 cb_40 ?_
      refine h_icmpgt (tgt := 26) dX11_isWhen_19 rfl (fun c_19 => ?_) (fun c_19 => ?_)
      · rw [nI_ltI (by omega) (by omega)] at c_19
        refine h_iconst dX11_isWhen_26 ci_0 ?_
        refine h_zreturn dX11_isWhen_27 rfl (by decide) ?_
        exact h0 (by
          rintro ⟨w2, e, e1, e2⟩
          rw [nI_eq (by omega) (by omega)] at e
          subst e
          omega)
      · rw [nI_ltI (by omega) (by omega)] at c_19
        refine h_iconst dX11_isWhen_22 ci_1 ?_
        refine h_goto (tgt := 27) dX11_isWhen_23 rfl ?_
        refine h_zreturn dX11_isWhen_27 rfl (by decide) ?_
        exact h1 w rfl (by omega) (by omega)
theorem r_isWhen {l : Launch} {dp : Nat} {x : Int32} {sh : hS} {I : hI} {J : hJ} {R : hR} {Q : hQ} (h1 : ∀ w, x = nI w → w / 100 ≤ 23 → w % 100 ≤ 40 → Q (some (.int (nI 1))) sh I J R) (h0 : ¬ isWh x → Q (some (.int (nI 0))) sh I J R) : HC l mX12_isWhen dp 0 0 [.int x] sh I J R Q := by
  refine HC.of (by decide +kernel) rfl (Nat.le_of_ble_eq_true rfl) ?_
  show HV l mX12_isWhen dp 0 0 0 [some (.int x)] [] sh I J R Q
  refine h_iload_n dX12_isWhen_0 rfl ?_
  refine h_iflt (tgt := 26) dX12_isWhen_1 rfl (fun c_1 => ?_) (fun c_1 => ?_)
  · refine h_iconst dX12_isWhen_26 ci_0 ?_
    refine h_zreturn dX12_isWhen_27 rfl (by decide) ?_
    exact h0 (by
      rintro ⟨w2, e, e1, e2⟩
      rw [e] at c_1
      exact absurd c_1 (nI_pos (by omega)))
  · obtain ⟨w, hw, rfl⟩ := nI_of (x := x) c_1
    refine h_iload_n dX12_isWhen_4 rfl ?_
    refine h_bipush dX12_isWhen_5 cb_100 ?_
    refine h_idivN dX12_isWhen_7 (by omega) (by omega) (by omega) ?_
    refine h_bipush dX12_isWhen_8 cb_23 ?_
    refine h_icmpgt (tgt := 26) dX12_isWhen_10 rfl (fun c_10 => ?_) (fun c_10 => ?_)
    · rw [nI_ltI (by omega) (by omega)] at c_10
      refine h_iconst dX12_isWhen_26 ci_0 ?_
      refine h_zreturn dX12_isWhen_27 rfl (by decide) ?_
      exact h0 (by
        rintro ⟨w2, e, e1, e2⟩
        rw [nI_eq (by omega) (by omega)] at e
        subst e
        omega)
    · rw [nI_ltI (by omega) (by omega)] at c_10
      refine h_iload_n dX12_isWhen_13 rfl ?_
      refine h_bipush dX12_isWhen_14 cb_100 ?_
      refine h_iremN dX12_isWhen_16 (by omega) (by omega) (by omega) ?_
      refine h_bipush dX12_isWhen_17 cb_40 ?_
      refine h_icmpgt (tgt := 26) dX12_isWhen_19 rfl (fun c_19 => ?_) (fun c_19 => ?_)
      · rw [nI_ltI (by omega) (by omega)] at c_19
        refine h_iconst dX12_isWhen_26 ci_0 ?_
        refine h_zreturn dX12_isWhen_27 rfl (by decide) ?_
        exact h0 (by
          rintro ⟨w2, e, e1, e2⟩
          rw [nI_eq (by omega) (by omega)] at e
          subst e
          omega)
      · rw [nI_ltI (by omega) (by omega)] at c_19
        refine h_iconst dX12_isWhen_22 ci_1 ?_
        refine h_goto (tgt := 27) dX12_isWhen_23 rfl ?_
        refine h_zreturn dX12_isWhen_27 rfl (by decide) ?_
        exact h1 w rfl (by omega) (by omega)
theorem c_addStationE {l : Launch} {dp : Nat} {ns nl : Nat} {pl fa fb sl : Nat → Nat} {rs : Nat → Int32} {I : hI} {J : hJ} {lt tx : Option Nat} {pv : Nat} {Q : hQ} (hN : cN I 2 ns nl pl fa fb sl rs) (hw : netW ns nl pl fa fb sl rs) (h6 : ns < 6) (hpv : pv ≤ 99) (hQ : ∀ g1 g2 g3, (∀ s, s < ns + 1 → g1 s = enc (dist fa fb sl nl s)) → (∀ s, s < ns + 1 → g2 s = lsI fa fb sl (dist fa fb sl nl) nl s) → (∀ s, s < ns + 1 → g3 s = lvl fa fb sl rs nl s) → Q (some (.int (nI ns))) hSH (upA (upA (upA (upI (upI I 3 ns (nI pv)) 2 0 (nI (ns + 1))) 8 g1) 9 g2) 10 g3) J (hRR lt tx)) : HC l mX5_addStation (dp + 3) 0 0 [.ref 2, .int (nI pv)] hSH I J (hRR lt tx) Q := by
  refine HC.of (by decide +kernel) rfl (Nat.le_of_ble_eq_true rfl) ?_
  show HV l mX5_addStation (dp + 3) 0 0 0 [some (.ref 2), some (.int (nI pv))] [] hSH I J (hRR lt tx) Q
  obtain ⟨hns, hnl, hpl, hlg⟩ := id hN
  obtain ⟨hn6, hl12, hW, hp99, hr99⟩ := id hw
  refine h_aload_n dX5_addStation_0 rfl ?_
  refine h_getR dX5_addStation_1 f_X5_15_5 rfl rfl ?_
  refine h_aload_n dX5_addStation_4 rfl ?_
  refine h_getI dX5_addStation_5 f_X5_9_5 rfl hns ?_
  refine h_iload_n dX5_addStation_8 rfl ?_
  refine h_iastN (j := ns) dX5_addStation_9 rfl rfl (by omega) rfl ?_
  refine h_aload_n dX5_addStation_10 rfl ?_
  refine h_dup dX5_addStation_11 rfl ?_
  refine h_getI dX5_addStation_12 f_X5_9_5 rfl hns ?_
  refine h_iconst dX5_addStation_15 ci_1 ?_
  refine h_iaddN dX5_addStation_16 ?_
  refine h_putI dX5_addStation_17 f_X5_9_5 p_X5_5_0 (fun h => by cases h) rfl ?_
  refine h_aload_n dX5_addStation_20 rfl ?_
  refine h_cV0 dX5_addStation_21 k2_161 oVX5_carry rfl rfl ?_
  have hN2 : cN (upI (upI I 3 ns (nI pv)) 2 0 (nI (ns + 1))) 2 (ns + 1) nl (upn pl ns pv) fa fb sl rs := ⟨rfl, hnl, upd_nI hpl, hlg⟩
  refine c_carry_2 hN2 (netW_st hw h6 hpv) (fun g1 g2 g3 e1 e2 e3 => ?_)
  refine h_aload_n dX5_addStation_24 rfl ?_
  refine h_getI dX5_addStation_25 f_X5_9_5 rfl (show _ = nI (ns + 1) from rfl) ?_
  refine h_iconst dX5_addStation_28 ci_1 ?_
  refine h_isubN dX5_addStation_29 (by omega) ?_
  refine h_ireturn dX5_addStation_30 rfl ?_
  rw [Nat.add_sub_cancel]
  exact hQ g1 g2 g3 e1 e2 e3
theorem c_station {l : Launch} {dp : Nat} {ns nl : Nat} {pl fa fb sl : Nat → Nat} {rs : Nat → Int32} {I : hI} {J : hJ} {lt tx : Option Nat} {x : Int32} {Q : hQ} (hN : cN I 2 ns nl pl fa fb sl rs) (hw : netW ns nl pl fa fb sl rs) (hB : ¬ (nI 0 ≤ x ∧ x ≤ nI 99) → Q (some (.int (-1))) hSH I J (hRR lt tx)) (hF : ns = 6 → Q (some (.int (-2))) hSH I J (hRR lt tx)) (hO : ∀ pv, x = nI pv → pv ≤ 99 → ns < 6 → ∀ g1 g2 g3, (∀ s, s < ns + 1 → g1 s = enc (dist fa fb sl nl s)) → (∀ s, s < ns + 1 → g2 s = lsI fa fb sl (dist fa fb sl nl) nl s) → (∀ s, s < ns + 1 → g3 s = lvl fa fb sl rs nl s) → Q (some (.int (nI ns))) hSH (upA (upA (upA (upI (upI I 3 ns (nI pv)) 2 0 (nI (ns + 1))) 8 g1) 9 g2) 10 g3) J (hRR lt tx)) : HC l mX11_station (dp + 4) 0 0 [.ref 0, .int x] hSH I J (hRR lt tx) Q := by
  refine HC.of (by decide +kernel) rfl (Nat.le_of_ble_eq_true rfl) ?_
  show HV l mX11_station (dp + 4) 0 0 0 [some (.ref 0), some (.int x)] [] hSH I J (hRR lt tx) Q
  obtain ⟨hns, hnl, hpl, hlg⟩ := id hN
  obtain ⟨hn6, hl12, hW, hp99, hr99⟩ := id hw
  refine h_iload_n dX11_station_0 rfl ?_
  refine h_iconst dX11_station_1 ci_0 ?_
  refine h_bipush dX11_station_2 cb_99 ?_
  refine h_cS3 dX11_station_4 k2_154 oSX11_within rfl ?_
  refine c_X11_within (fun b1 => ?_) (fun b1 => ?_)
  · obtain ⟨pv, rfl, -, hpv⟩ := rng_ex (by omega) (by omega) b1.1 b1.2
    refine h_ifne (tgt := 12) dX11_station_7 rfl (fun _ => ?_) (fun c => absurd c (by decide))
    refine h_aload_n dX11_station_12 rfl ?_
    refine h_getR dX11_station_13 f_X11_20_9 rfl rfl ?_
    refine h_getI dX11_station_16 f_X11_105_5 rfl hns ?_
    refine h_bipush dX11_station_19 cb_6 ?_
    refine h_icmplt (tgt := 27) dX11_station_21 rfl (fun c_21 => ?_) (fun c_21 => ?_)
    · rw [nI_ltI (by omega) (by omega)] at c_21
      refine h_aload_n dX11_station_27 rfl ?_
      refine h_getR dX11_station_28 f_X11_20_9 rfl rfl ?_
      refine h_iload_n dX11_station_31 rfl ?_
      refine h_cV1 dX11_station_32 k2_157 oVX5_addStation rfl rfl ?_
      refine c_addStationE hN hw (by omega) hpv (fun g1 g2 g3 e1 e2 e3 => ?_)
      refine h_ireturn dX11_station_35 rfl ?_
      exact hO pv rfl hpv (by omega) g1 g2 g3 e1 e2 e3
    · rw [nI_ltI (by omega) (by omega)] at c_21
      refine h_bipush dX11_station_24 cb_m2 ?_
      refine h_ireturn dX11_station_26 rfl ?_
      exact hF (by omega)
  · refine h_ifne (tgt := 12) dX11_station_7 rfl (fun c => absurd (by decide) c) (fun _ => ?_)
    refine h_iconst dX11_station_10 ci_m1 ?_
    refine h_ireturn dX11_station_11 rfl ?_
    exact hB b1
theorem r_station {l : Launch} {dp : Nat} {ns nl : Nat} {pl fa fb sl : Nat → Nat} {rs : Nat → Int32} {I : hI} {J : hJ} {lt tx : Option Nat} {x : Int32} {Q : hQ} (hN : rN I ns nl pl fa fb sl rs) (hw : netW ns nl pl fa fb sl rs) (hB : ¬ (nI 0 ≤ x ∧ x ≤ nI 99) → Q (some (.int (-1))) hSH I J (hRR lt tx)) (hF : ns = 6 → Q (some (.int (-2))) hSH I J (hRR lt tx)) (hO : ∀ pv, x = nI pv → pv ≤ 99 → ns < 6 → Q (some (.int (nI ns))) hSH (upI (upI I 83 ns (nI pv)) 82 0 (nI (ns + 1))) J (hRR lt tx)) : HC l mX12_station (dp + 1) 0 0 [.ref 82, .int x] hSH I J (hRR lt tx) Q := by
  refine HC.of (by decide +kernel) rfl (Nat.le_of_ble_eq_true rfl) ?_
  show HV l mX12_station (dp + 1) 0 0 0 [some (.ref 82), some (.int x)] [] hSH I J (hRR lt tx) Q
  obtain ⟨hns, hnl, hpl, hlg⟩ := id hN
  obtain ⟨hn6, hl12, hW, hp99, hr99⟩ := id hw
  refine h_iload_n dX12_station_0 rfl ?_
  refine h_iconst dX12_station_1 ci_0 ?_
  refine h_bipush dX12_station_2 cb_99 ?_
  refine h_cS3 dX12_station_4 k5_172 oSX12_in rfl ?_
  refine c_X12_in (fun b1 => ?_) (fun b1 => ?_)
  · obtain ⟨pv, rfl, -, hpv⟩ := rng_ex (by omega) (by omega) b1.1 b1.2
    refine h_ifne (tgt := 12) dX12_station_7 rfl (fun _ => ?_) (fun c => absurd c (by decide))
    refine h_aload_n dX12_station_12 rfl ?_
    refine h_getI dX12_station_13 f_X12_102_10 rfl hns ?_
    refine h_bipush dX12_station_16 cb_6 ?_
    refine h_icmpne (tgt := 24) dX12_station_18 rfl (fun c_18 => ?_) (fun c_18 => ?_)
    · rw [nI_eq (by omega) (by omega)] at c_18
      refine h_aload_n dX12_station_24 rfl ?_
      refine h_getR dX12_station_25 f_X12_7_10 rfl rfl ?_
      refine h_aload_n dX12_station_28 rfl ?_
      refine h_getI dX12_station_29 f_X12_102_10 rfl hns ?_
      refine h_iload_n dX12_station_32 rfl ?_
      refine h_iastN (j := ns) dX12_station_33 rfl rfl (by omega) rfl ?_
      refine h_aload_n dX12_station_34 rfl ?_
      refine h_dup dX12_station_35 rfl ?_
      refine h_getI dX12_station_36 f_X12_102_10 rfl hns ?_
      refine h_iconst dX12_station_39 ci_1 ?_
      refine h_iaddN dX12_station_40 ?_
      refine h_putI dX12_station_41 f_X12_102_10 p_X12_10_0 (fun h => by cases h) rfl ?_
      refine h_aload_n dX12_station_44 rfl ?_
      refine h_getI dX12_station_45 f_X12_102_10 rfl (show _ = nI (ns + 1) from rfl) ?_
      refine h_iconst dX12_station_48 ci_1 ?_
      refine h_isubN dX12_station_49 (by omega) ?_
      refine h_ireturn dX12_station_50 rfl ?_
      rw [Nat.add_sub_cancel]
      exact hO pv rfl hpv (by omega)
    · rw [nI_eq (by omega) (by omega)] at c_18
      refine h_bipush dX12_station_21 cb_m2 ?_
      refine h_ireturn dX12_station_23 rfl ?_
      exact hF (by omega)
  · refine h_ifne (tgt := 12) dX12_station_7 rfl (fun c => absurd (by decide) c) (fun _ => ?_)
    refine h_iconst dX12_station_10 ci_m1 ?_
    refine h_ireturn dX12_station_11 rfl ?_
    exact hB b1
theorem c_addLegE {l : Launch} {dp : Nat} {ns nl : Nat} {pl fa fb sl : Nat → Nat} {rs : Nat → Int32} {I : hI} {J : hJ} {lt tx : Option Nat} {a b w : Nat} {r : Int32} {Q : hQ} (hN : cN I 2 ns nl pl fa fb sl rs) (hw : netW ns nl pl fa fb sl rs) (h12 : nl < 12) (ha : a < ns) (hb : b < ns) (hab : a ≠ b) (h1 : 1 ≤ w) (h9 : w ≤ 9) (hr1 : -99 ≤ r.toInt) (hr2 : r.toInt ≤ 99) (hQ : ∀ g1 g2 g3, (∀ s, s < ns → g1 s = enc (dist (upn fa nl a) (upn fb nl b) (upn sl nl w) (nl + 1) s)) → (∀ s, s < ns → g2 s = lsI (upn fa nl a) (upn fb nl b) (upn sl nl w) (dist (upn fa nl a) (upn fb nl b) (upn sl nl w) (nl + 1)) (nl + 1) s) → (∀ s, s < ns → g3 s = lvl (upn fa nl a) (upn fb nl b) (upn sl nl w) (upd rs nl r) (nl + 1) s) → Q (some (.int (nI nl))) hSH (upA (upA (upA (upI (upI (upI (upI (upI I 4 nl (nI a)) 5 nl (nI b)) 6 nl r) 7 nl (nI w)) 2 2 (nI (nl + 1))) 8 g1) 9 g2) 10 g3) J (hRR lt tx)) : HC l mX5_addLeg (dp + 3) 0 0 [.ref 2, .int (nI a), .int (nI b), .int r, .int (nI w)] hSH I J (hRR lt tx) Q := by
  refine HC.of (by decide +kernel) rfl (Nat.le_of_ble_eq_true rfl) ?_
  show HV l mX5_addLeg (dp + 3) 0 0 0 [some (.ref 2), some (.int (nI a)), some (.int (nI b)), some (.int r), some (.int (nI w))] [] hSH I J (hRR lt tx) Q
  obtain ⟨hns, hnl, hpl, hlg⟩ := id hN
  obtain ⟨hn6, hl12, hW, hp99, hr99⟩ := id hw
  refine h_aload_n dX5_addLeg_0 rfl ?_
  refine h_getR dX5_addLeg_1 f_X5_22_5 rfl rfl ?_
  refine h_aload_n dX5_addLeg_4 rfl ?_
  refine h_getI dX5_addLeg_5 f_X5_19_5 rfl hnl ?_
  refine h_iload_n dX5_addLeg_8 rfl ?_
  refine h_iastN (j := nl) dX5_addLeg_9 rfl rfl (by omega) rfl ?_
  refine h_aload_n dX5_addLeg_10 rfl ?_
  refine h_getR dX5_addLeg_11 f_X5_25_5 rfl rfl ?_
  refine h_aload_n dX5_addLeg_14 rfl ?_
  refine h_getI dX5_addLeg_15 f_X5_19_5 rfl hnl ?_
  refine h_iload_n dX5_addLeg_18 rfl ?_
  refine h_iastN (j := nl) dX5_addLeg_19 rfl rfl (by omega) rfl ?_
  refine h_aload_n dX5_addLeg_20 rfl ?_
  refine h_getR dX5_addLeg_21 f_X5_28_5 rfl rfl ?_
  refine h_aload_n dX5_addLeg_24 rfl ?_
  refine h_getI dX5_addLeg_25 f_X5_19_5 rfl hnl ?_
  refine h_iload_n dX5_addLeg_28 rfl ?_
  refine h_iastN (j := nl) dX5_addLeg_29 rfl rfl (by omega) rfl ?_
  refine h_aload_n dX5_addLeg_30 rfl ?_
  refine h_getR dX5_addLeg_31 f_X5_31_5 rfl rfl ?_
  refine h_aload_n dX5_addLeg_34 rfl ?_
  refine h_getI dX5_addLeg_35 f_X5_19_5 rfl hnl ?_
  refine h_iload dX5_addLeg_38 rfl ?_
  refine h_iastN (j := nl) dX5_addLeg_40 rfl rfl (by omega) rfl ?_
  refine h_aload_n dX5_addLeg_41 rfl ?_
  refine h_dup dX5_addLeg_42 rfl ?_
  refine h_getI dX5_addLeg_43 f_X5_19_5 rfl hnl ?_
  refine h_iconst dX5_addLeg_46 ci_1 ?_
  refine h_iaddN dX5_addLeg_47 ?_
  refine h_putI dX5_addLeg_48 f_X5_19_5 p_X5_5_2 (fun h => by cases h) rfl ?_
  refine h_aload_n dX5_addLeg_51 rfl ?_
  refine h_cV0 dX5_addLeg_52 k2_161 oVX5_carry rfl rfl ?_
  have hN2 : cN (upI (upI (upI (upI (upI I 4 nl (nI a)) 5 nl (nI b)) 6 nl r) 7 nl (nI w)) 2 2 (nI (nl + 1))) 2 ns (nl + 1) pl (upn fa nl a) (upn fb nl b) (upn sl nl w) (upd rs nl r) := ⟨hns, rfl, hpl, fun k hk => ⟨upd_nI (fun j hj => (hlg j hj).1) k hk, upd_nI (fun j hj => (hlg j hj).2.1) k hk, upd_up (fun j hj => (hlg j hj).2.2.1) k hk, upd_nI (fun j hj => (hlg j hj).2.2.2) k hk⟩⟩
  refine c_carry_2 hN2 (netW_leg hw h12 ha hb hab h1 h9 hr1 hr2) (fun g1 g2 g3 e1 e2 e3 => ?_)
  refine h_aload_n dX5_addLeg_55 rfl ?_
  refine h_getI dX5_addLeg_56 f_X5_19_5 rfl (show _ = nI (nl + 1) from rfl) ?_
  refine h_iconst dX5_addLeg_59 ci_1 ?_
  refine h_isubN dX5_addLeg_60 (by omega) ?_
  refine h_ireturn dX5_addLeg_61 rfl ?_
  rw [Nat.add_sub_cancel]
  exact hQ g1 g2 g3 e1 e2 e3
def legOk (ns : Nat) (x y r w : Int32) : Prop := isIx x ns ∧ isIx y ns ∧ ¬ x = y ∧ (-99 ≤ r ∧ r ≤ nI 99) ∧ (nI 1 ≤ w ∧ w ≤ nI 9)
theorem r99 {r : Int32} (h : -99 ≤ r ∧ r ≤ nI 99) : -99 ≤ r.toInt ∧ r.toInt ≤ 99 := by
  have h1 := Int32.le_iff_toInt_le.mp h.1
  have h2 := Int32.le_iff_toInt_le.mp h.2
  rw [nI_toInt (by omega)] at h2
  rw [show (-99 : Int32).toInt = -99 by decide] at h1
  exact ⟨h1, h2⟩
theorem c_leg {l : Launch} {dp : Nat} {ns nl : Nat} {pl fa fb sl : Nat → Nat} {rs : Nat → Int32} {I : hI} {J : hJ} {lt tx : Option Nat} {x y r wv : Int32} {Q : hQ} (hN : cN I 2 ns nl pl fa fb sl rs) (hw : netW ns nl pl fa fb sl rs) (hB : ¬ legOk ns x y r wv → Q (some (.int (-1))) hSH I J (hRR lt tx)) (hF : nl = 12 → Q (some (.int (-2))) hSH I J (hRR lt tx)) (hO : ∀ a b w, x = nI a → y = nI b → wv = nI w → a < ns → b < ns → a ≠ b → 1 ≤ w → w ≤ 9 → -99 ≤ r.toInt → r.toInt ≤ 99 → nl < 12 → ∀ g1 g2 g3, (∀ s, s < ns → g1 s = enc (dist (upn fa nl a) (upn fb nl b) (upn sl nl w) (nl + 1) s)) → (∀ s, s < ns → g2 s = lsI (upn fa nl a) (upn fb nl b) (upn sl nl w) (dist (upn fa nl a) (upn fb nl b) (upn sl nl w) (nl + 1)) (nl + 1) s) → (∀ s, s < ns → g3 s = lvl (upn fa nl a) (upn fb nl b) (upn sl nl w) (upd rs nl r) (nl + 1) s) → Q (some (.int (nI nl))) hSH (upA (upA (upA (upI (upI (upI (upI (upI I 4 nl (nI a)) 5 nl (nI b)) 6 nl r) 7 nl (nI w)) 2 2 (nI (nl + 1))) 8 g1) 9 g2) 10 g3) J (hRR lt tx)) : HC l mX11_leg (dp + 4) 0 0 [.ref 0, .int x, .int y, .int r, .int wv] hSH I J (hRR lt tx) Q := by
  refine HC.of (by decide +kernel) rfl (Nat.le_of_ble_eq_true rfl) ?_
  show HV l mX11_leg (dp + 4) 0 0 0 [some (.ref 0), some (.int x), some (.int y), some (.int r), some (.int wv)] [] hSH I J (hRR lt tx) Q
  obtain ⟨hns, hnl, hpl, hlg⟩ := id hN
  obtain ⟨hn6, hl12, hW, hp99, hr99⟩ := id hw
  refine h_aload_n dX11_leg_0 rfl ?_
  refine h_iload_n dX11_leg_1 rfl ?_
  refine h_cV1 dX11_leg_2 k2_188 oVX11_isStation rfl rfl ?_
  refine c_isStation (n := ns) hns (by omega) (fun b1 => ?_) (fun b1 => ?_)
  · refine h_ifeq (tgt := 36) dX11_leg_5 rfl (fun c => absurd c (by decide)) (fun _ => ?_)
    refine h_aload_n dX11_leg_8 rfl ?_
    refine h_iload_n dX11_leg_9 rfl ?_
    refine h_cV1 dX11_leg_10 k2_188 oVX11_isStation rfl rfl ?_
    refine c_isStation (n := ns) hns (by omega) (fun b2 => ?_) (fun b2 => ?_)
    · refine h_ifeq (tgt := 36) dX11_leg_13 rfl (fun c => absurd c (by decide)) (fun _ => ?_)
      refine h_iload_n dX11_leg_16 rfl ?_
      refine h_iload_n dX11_leg_17 rfl ?_
      refine h_icmpeq (tgt := 36) dX11_leg_18 rfl (fun c_18 => ?_) (fun c_18 => ?_)
      · refine h_iconst dX11_leg_36 ci_m1 ?_
        refine h_ireturn dX11_leg_37 rfl ?_
        exact hB (fun z => z.2.2.1 c_18)
      · refine h_iload_n dX11_leg_21 rfl ?_
        refine h_cS1 dX11_leg_22 k2_192 oSX11_isRise rfl ?_
        refine c_X11_isRise (fun b3 => ?_) (fun b3 => ?_)
        · refine h_ifeq (tgt := 36) dX11_leg_25 rfl (fun c => absurd c (by decide)) (fun _ => ?_)
          refine h_iload dX11_leg_28 rfl ?_
          refine h_cS1 dX11_leg_30 k2_195 oSX11_isSlip rfl ?_
          refine c_X11_isSlip (fun b4 => ?_) (fun b4 => ?_)
          · have hok : legOk ns x y r wv := ⟨b1, b2, c_18, b3, b4⟩
            obtain ⟨⟨a, ha, rfl⟩, ⟨b, hb, rfl⟩, hne, hr, hwv⟩ := hok
            obtain ⟨w, rfl, hw1, hw9⟩ := rng_ex (by omega) (by omega) hwv.1 hwv.2
            obtain ⟨hr1, hr2⟩ := r99 hr
            have hab : a ≠ b := fun e => hne (by rw [e])
            refine h_ifne (tgt := 38) dX11_leg_33 rfl (fun _ => ?_) (fun c => absurd c (by decide))
            refine h_aload_n dX11_leg_38 rfl ?_
            refine h_getR dX11_leg_39 f_X11_20_9 rfl rfl ?_
            refine h_getI dX11_leg_42 f_X11_124_5 rfl hnl ?_
            refine h_bipush dX11_leg_45 cb_12 ?_
            refine h_icmplt (tgt := 53) dX11_leg_47 rfl (fun c_47 => ?_) (fun c_47 => ?_)
            · rw [nI_ltI (by omega) (by omega)] at c_47
              refine h_aload_n dX11_leg_53 rfl ?_
              refine h_getR dX11_leg_54 f_X11_20_9 rfl rfl ?_
              refine h_iload_n dX11_leg_57 rfl ?_
              refine h_iload_n dX11_leg_58 rfl ?_
              refine h_iload_n dX11_leg_59 rfl ?_
              refine h_iload dX11_leg_60 rfl ?_
              refine h_cV4 dX11_leg_62 k2_198 oVX5_addLeg rfl rfl ?_
              refine c_addLegE hN hw (by omega) ha hb hab hw1 hw9 hr1 hr2 (fun g1 g2 g3 e1 e2 e3 => ?_)
              refine h_ireturn dX11_leg_65 rfl ?_
              exact hO a b w rfl rfl rfl ha hb hab hw1 hw9 hr1 hr2 (by omega) g1 g2 g3 e1 e2 e3
            · rw [nI_ltI (by omega) (by omega)] at c_47
              refine h_bipush dX11_leg_50 cb_m2 ?_
              refine h_ireturn dX11_leg_52 rfl ?_
              exact hF (by omega)
          · refine h_ifne (tgt := 38) dX11_leg_33 rfl (fun c => absurd (by decide) c) (fun _ => ?_)
            refine h_iconst dX11_leg_36 ci_m1 ?_
            refine h_ireturn dX11_leg_37 rfl ?_
            exact hB (fun z => b4 z.2.2.2.2)
        · refine h_ifeq (tgt := 36) dX11_leg_25 rfl (fun _ => ?_) (fun c => absurd (by decide) c)
          refine h_iconst dX11_leg_36 ci_m1 ?_
          refine h_ireturn dX11_leg_37 rfl ?_
          exact hB (fun z => b3 z.2.2.2.1)
    · refine h_ifeq (tgt := 36) dX11_leg_13 rfl (fun _ => ?_) (fun c => absurd (by decide) c)
      refine h_iconst dX11_leg_36 ci_m1 ?_
      refine h_ireturn dX11_leg_37 rfl ?_
      exact hB (fun z => b2 z.2.1)
  · refine h_ifeq (tgt := 36) dX11_leg_5 rfl (fun _ => ?_) (fun c => absurd (by decide) c)
    refine h_iconst dX11_leg_36 ci_m1 ?_
    refine h_ireturn dX11_leg_37 rfl ?_
    exact hB (fun z => b1 z.1)
theorem r_leg {l : Launch} {dp : Nat} {ns nl : Nat} {pl fa fb sl : Nat → Nat} {rs : Nat → Int32} {I : hI} {J : hJ} {lt tx : Option Nat} {x y r wv : Int32} {Q : hQ} (hN : rN I ns nl pl fa fb sl rs) (hw : netW ns nl pl fa fb sl rs) (hB : ¬ legOk ns x y r wv → Q (some (.int (-1))) hSH I J (hRR lt tx)) (hF : nl = 12 → Q (some (.int (-2))) hSH I J (hRR lt tx)) (hO : ∀ a b w, x = nI a → y = nI b → wv = nI w → a < ns → b < ns → a ≠ b → 1 ≤ w → w ≤ 9 → -99 ≤ r.toInt → r.toInt ≤ 99 → nl < 12 → Q (some (.int (nI nl))) hSH (upI (upI (upI (upI (upI I 84 (4 * nl) (nI a)) 84 (4 * nl + 1) (nI b)) 84 (4 * nl + 2) r) 84 (4 * nl + 3) (nI w)) 82 2 (nI (nl + 1))) J (hRR lt tx)) : HC l mX12_leg (dp + 2) 0 0 [.ref 82, .int x, .int y, .int r, .int wv] hSH I J (hRR lt tx) Q := by
  refine HC.of (by decide +kernel) rfl (Nat.le_of_ble_eq_true rfl) ?_
  show HV l mX12_leg (dp + 2) 0 0 0 [some (.ref 82), some (.int x), some (.int y), some (.int r), some (.int wv)] [] hSH I J (hRR lt tx) Q
  obtain ⟨hns, hnl, hpl, hlg⟩ := id hN
  obtain ⟨hn6, hl12, hW, hp99, hr99⟩ := id hw
  refine h_aload_n dX12_leg_0 rfl ?_
  refine h_iload_n dX12_leg_1 rfl ?_
  refine h_cV1 dX12_leg_2 k5_179 oVX12_isStation rfl rfl ?_
  refine r_isStation (n := ns) hns (by omega) (fun b1 => ?_) (fun b1 => ?_)
  · refine h_ifeq (tgt := 43) dX12_leg_5 rfl (fun c => absurd c (by decide)) (fun _ => ?_)
    refine h_aload_n dX12_leg_8 rfl ?_
    refine h_iload_n dX12_leg_9 rfl ?_
    refine h_cV1 dX12_leg_10 k5_179 oVX12_isStation rfl rfl ?_
    refine r_isStation (n := ns) hns (by omega) (fun b2 => ?_) (fun b2 => ?_)
    · refine h_ifeq (tgt := 43) dX12_leg_13 rfl (fun c => absurd c (by decide)) (fun _ => ?_)
      refine h_iload_n dX12_leg_16 rfl ?_
      refine h_iload_n dX12_leg_17 rfl ?_
      refine h_icmpeq (tgt := 43) dX12_leg_18 rfl (fun c_18 => ?_) (fun c_18 => ?_)
      · refine h_iconst dX12_leg_43 ci_m1 ?_
        refine h_ireturn dX12_leg_44 rfl ?_
        exact hB (fun z => z.2.2.1 c_18)
      · refine h_iload_n dX12_leg_21 rfl ?_
        refine h_bipush dX12_leg_22 cb_m99 ?_
        refine h_bipush dX12_leg_24 cb_99 ?_
        refine h_cS3 dX12_leg_26 k5_172 oSX12_in rfl ?_
        refine c_X12_in (fun b3 => ?_) (fun b3 => ?_)
        · refine h_ifeq (tgt := 43) dX12_leg_29 rfl (fun c => absurd c (by decide)) (fun _ => ?_)
          refine h_iload dX12_leg_32 rfl ?_
          refine h_iconst dX12_leg_34 ci_1 ?_
          refine h_bipush dX12_leg_35 cb_9 ?_
          refine h_cS3 dX12_leg_37 k5_172 oSX12_in rfl ?_
          refine c_X12_in (fun b4 => ?_) (fun b4 => ?_)
          · have hok : legOk ns x y r wv := ⟨b1, b2, c_18, b3, b4⟩
            obtain ⟨⟨a, ha, rfl⟩, ⟨b, hb, rfl⟩, hne, hr, hwv⟩ := hok
            obtain ⟨w, rfl, hw1, hw9⟩ := rng_ex (by omega) (by omega) hwv.1 hwv.2
            obtain ⟨hr1, hr2⟩ := r99 hr
            have hab : a ≠ b := fun e => hne (by rw [e])
            refine h_ifne (tgt := 45) dX12_leg_40 rfl (fun _ => ?_) (fun c => absurd c (by decide))
            refine h_aload_n dX12_leg_45 rfl ?_
            refine h_getI dX12_leg_46 f_X12_120_10 rfl hnl ?_
            refine h_bipush dX12_leg_49 cb_12 ?_
            refine h_icmpne (tgt := 57) dX12_leg_51 rfl (fun c_51 => ?_) (fun c_51 => ?_)
            · rw [nI_eq (by omega) (by omega)] at c_51
              refine h_aload_n dX12_leg_57 rfl ?_
              refine h_getR dX12_leg_58 f_X12_13_10 rfl rfl ?_
              refine h_iconst dX12_leg_61 ci_4 ?_
              refine h_aload_n dX12_leg_62 rfl ?_
              refine h_getI dX12_leg_63 f_X12_120_10 rfl hnl ?_
              refine h_imulN dX12_leg_66 ?_
              refine h_iload_n dX12_leg_67 rfl ?_
              refine h_iastN (j := 4 * nl) dX12_leg_68 rfl rfl (by omega) rfl ?_
              refine h_aload_n dX12_leg_69 rfl ?_
              refine h_getR dX12_leg_70 f_X12_13_10 rfl rfl ?_
              refine h_iconst dX12_leg_73 ci_4 ?_
              refine h_aload_n dX12_leg_74 rfl ?_
              refine h_getI dX12_leg_75 f_X12_120_10 rfl hnl ?_
              refine h_imulN dX12_leg_78 ?_
              refine h_iconst dX12_leg_79 ci_1 ?_
              refine h_iaddN dX12_leg_80 ?_
              refine h_iload_n dX12_leg_81 rfl ?_
              refine h_iastN (j := (4 * nl) + 1) dX12_leg_82 rfl rfl (by omega) rfl ?_
              refine h_aload_n dX12_leg_83 rfl ?_
              refine h_getR dX12_leg_84 f_X12_13_10 rfl rfl ?_
              refine h_iconst dX12_leg_87 ci_4 ?_
              refine h_aload_n dX12_leg_88 rfl ?_
              refine h_getI dX12_leg_89 f_X12_120_10 rfl hnl ?_
              refine h_imulN dX12_leg_92 ?_
              refine h_iconst dX12_leg_93 ci_2 ?_
              refine h_iaddN dX12_leg_94 ?_
              refine h_iload_n dX12_leg_95 rfl ?_
              refine h_iastN (j := (4 * nl) + 2) dX12_leg_96 rfl rfl (by omega) rfl ?_
              refine h_aload_n dX12_leg_97 rfl ?_
              refine h_getR dX12_leg_98 f_X12_13_10 rfl rfl ?_
              refine h_iconst dX12_leg_101 ci_4 ?_
              refine h_aload_n dX12_leg_102 rfl ?_
              refine h_getI dX12_leg_103 f_X12_120_10 rfl hnl ?_
              refine h_imulN dX12_leg_106 ?_
              refine h_iconst dX12_leg_107 ci_3 ?_
              refine h_iaddN dX12_leg_108 ?_
              refine h_iload dX12_leg_109 rfl ?_
              refine h_iastN (j := (4 * nl) + 3) dX12_leg_111 rfl rfl (by omega) rfl ?_
              refine h_aload_n dX12_leg_112 rfl ?_
              refine h_dup dX12_leg_113 rfl ?_
              refine h_getI dX12_leg_114 f_X12_120_10 rfl hnl ?_
              refine h_iconst dX12_leg_117 ci_1 ?_
              refine h_iaddN dX12_leg_118 ?_
              refine h_putI dX12_leg_119 f_X12_120_10 p_X12_10_2 (fun h => by cases h) rfl ?_
              refine h_aload_n dX12_leg_122 rfl ?_
              refine h_getI dX12_leg_123 f_X12_120_10 rfl (show _ = nI (nl + 1) from rfl) ?_
              refine h_iconst dX12_leg_126 ci_1 ?_
              refine h_isubN dX12_leg_127 (by omega) ?_
              refine h_ireturn dX12_leg_128 rfl ?_
              rw [Nat.add_sub_cancel]
              exact hO a b w rfl rfl rfl ha hb hab hw1 hw9 hr1 hr2 (by omega)
            · rw [nI_eq (by omega) (by omega)] at c_51
              refine h_bipush dX12_leg_54 cb_m2 ?_
              refine h_ireturn dX12_leg_56 rfl ?_
              exact hF (by omega)
          · refine h_ifne (tgt := 45) dX12_leg_40 rfl (fun c => absurd (by decide) c) (fun _ => ?_)
            refine h_iconst dX12_leg_43 ci_m1 ?_
            refine h_ireturn dX12_leg_44 rfl ?_
            exact hB (fun z => b4 z.2.2.2.2)
        · refine h_ifeq (tgt := 43) dX12_leg_29 rfl (fun _ => ?_) (fun c => absurd (by decide) c)
          refine h_iconst dX12_leg_43 ci_m1 ?_
          refine h_ireturn dX12_leg_44 rfl ?_
          exact hB (fun z => b3 z.2.2.2.1)
    · refine h_ifeq (tgt := 43) dX12_leg_13 rfl (fun _ => ?_) (fun c => absurd (by decide) c)
      refine h_iconst dX12_leg_43 ci_m1 ?_
      refine h_ireturn dX12_leg_44 rfl ?_
      exact hB (fun z => b2 z.2.1)
  · refine h_ifeq (tgt := 43) dX12_leg_5 rfl (fun _ => ?_) (fun c => absurd (by decide) c)
    refine h_iconst dX12_leg_43 ci_m1 ?_
    refine h_ireturn dX12_leg_44 rfl ?_
    exact hB (fun z => b1 z.1)
