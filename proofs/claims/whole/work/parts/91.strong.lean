theorem c_station2 {l : Launch} {dp : Nat} {ns nl : Nat} {pl fa fb sl : Nat → Nat} {rs : Nat → Int32} {I : hI} {J : hJ} {lt tx : Option Nat} {x : Int32} {Q : hQ} (hN : cN I 2 ns nl pl fa fb sl rs) (hw : netW ns nl pl fa fb sl rs) (hB : ¬ (nI 0 ≤ x ∧ x ≤ nI 99) → Q (some (.int (-1))) hSH I J (hRR lt tx)) (hF : (nI 0 ≤ x ∧ x ≤ nI 99) → ns = 6 → Q (some (.int (-2))) hSH I J (hRR lt tx)) (hO : ∀ pv, x = nI pv → pv ≤ 99 → ns < 6 → ∀ g1 g2 g3, (∀ s, s < ns + 1 → g1 s = enc (dist fa fb sl nl s)) → (∀ s, s < ns + 1 → g2 s = lsI fa fb sl (dist fa fb sl nl) nl s) → (∀ s, s < ns + 1 → g3 s = lvl fa fb sl rs nl s) → Q (some (.int (nI ns))) hSH (upA (upA (upA (upI (upI I 3 ns (nI pv)) 2 0 (nI (ns + 1))) 8 g1) 9 g2) 10 g3) J (hRR lt tx)) : HC l mX11_station (dp + 4) 0 0 [.ref 0, .int x] hSH I J (hRR lt tx) Q := by
  refine HC.of (by decide +kernel) rfl (Nat.le_of_ble_eq_true rfl) ?_
  show HV l mX11_station (dp + 4) 0 0 0 [some (.ref 0), some (.int x)] [] hSH I J (hRR lt tx) Q
  obtain ⟨hns, hnl, hpl, hlg⟩ := id hN
  obtain ⟨hn6, hl12, hW, hp99, hr99⟩ := id hw
  refine h_iload_n dX11_station_0 rfl ?_
  refine h_iconst dX11_station_1 ci_0 ?_
  refine h_bipush dX11_station_2 cb_99 ?_
  refine h_cS3 dX11_station_4 k2_154 oSX11_within rfl ?_
  refine c_X11_within (fun b1 => ?_) (fun b1 => ?_)
  · have ok0 := b1
    obtain ⟨pv, rfl, -, hpv⟩ := rng_ex (by omega) (by omega) b1.1 b1.2
    refine h_ifne (tgt := 12) dX11_station_7 rfl (fun _ => ?_) (fun c => absurd c (by decide))
    refine h_aload_n dX11_station_12 rfl ?_
    refine h_getR dX11_station_13 f_X11_20_9 rfl rfl ?_
    refine h_getI dX11_station_16 f_X11_105_5 rfl hns ?_
    refine h_bipush dX11_station_19 cb_6 ?_
    refine h_icmplt (tgt := 27) dX11_station_21 rfl (fun c_21 => ?_) (fun c_21 => ?_)
    · rw [nI_ltI (by omega) (by omega)] at c_21
      refine h_aload_n dX11_station_27 rfl ?_
      refine h_getR dX11_station_28 f_X11_20_9 rfl rfl ?_
      refine h_iload_n dX11_station_31 rfl ?_
      refine h_cV1 dX11_station_32 k2_157 oVX5_addStation rfl rfl ?_
      refine c_addStationE hN hw (by omega) hpv (fun g1 g2 g3 e1 e2 e3 => ?_)
      refine h_ireturn dX11_station_35 rfl ?_
      exact hO pv rfl hpv (by omega) g1 g2 g3 e1 e2 e3
    · rw [nI_ltI (by omega) (by omega)] at c_21
      refine h_bipush dX11_station_24 cb_m2 ?_
      refine h_ireturn dX11_station_26 rfl ?_
      exact hF ok0 (by omega)
  · refine h_ifne (tgt := 12) dX11_station_7 rfl (fun c => absurd (by decide) c) (fun _ => ?_)
    refine h_iconst dX11_station_10 ci_m1 ?_
    refine h_ireturn dX11_station_11 rfl ?_
    exact hB b1
theorem r_station2 {l : Launch} {dp : Nat} {ns nl : Nat} {pl fa fb sl : Nat → Nat} {rs : Nat → Int32} {I : hI} {J : hJ} {lt tx : Option Nat} {x : Int32} {Q : hQ} (hN : rN I ns nl pl fa fb sl rs) (hw : netW ns nl pl fa fb sl rs) (hB : ¬ (nI 0 ≤ x ∧ x ≤ nI 99) → Q (some (.int (-1))) hSH I J (hRR lt tx)) (hF : (nI 0 ≤ x ∧ x ≤ nI 99) → ns = 6 → Q (some (.int (-2))) hSH I J (hRR lt tx)) (hO : ∀ pv, x = nI pv → pv ≤ 99 → ns < 6 → Q (some (.int (nI ns))) hSH (upI (upI I 83 ns (nI pv)) 82 0 (nI (ns + 1))) J (hRR lt tx)) : HC l mX12_station (dp + 1) 0 0 [.ref 82, .int x] hSH I J (hRR lt tx) Q := by
  refine HC.of (by decide +kernel) rfl (Nat.le_of_ble_eq_true rfl) ?_
  show HV l mX12_station (dp + 1) 0 0 0 [some (.ref 82), some (.int x)] [] hSH I J (hRR lt tx) Q
  obtain ⟨hns, hnl, hpl, hlg⟩ := id hN
  obtain ⟨hn6, hl12, hW, hp99, hr99⟩ := id hw
  refine h_iload_n dX12_station_0 rfl ?_
  refine h_iconst dX12_station_1 ci_0 ?_
  refine h_bipush dX12_station_2 cb_99 ?_
  refine h_cS3 dX12_station_4 k5_172 oSX12_in rfl ?_
  refine c_X12_in (fun b1 => ?_) (fun b1 => ?_)
  · have ok0 := b1
    obtain ⟨pv, rfl, -, hpv⟩ := rng_ex (by omega) (by omega) b1.1 b1.2
    refine h_ifne (tgt := 12) dX12_station_7 rfl (fun _ => ?_) (fun c => absurd c (by decide))
    refine h_aload_n dX12_station_12 rfl ?_
    refine h_getI dX12_station_13 f_X12_102_10 rfl hns ?_
    refine h_bipush dX12_station_16 cb_6 ?_
    refine h_icmpne (tgt := 24) dX12_station_18 rfl (fun c_18 => ?_) (fun c_18 => ?_)
    · rw [nI_eq (by omega) (by omega)] at c_18
      refine h_aload_n dX12_station_24 rfl ?_
      refine h_getR dX12_station_25 f_X12_7_10 rfl rfl ?_
      refine h_aload_n dX12_station_28 rfl ?_
      refine h_getI dX12_station_29 f_X12_102_10 rfl hns ?_
      refine h_iload_n dX12_station_32 rfl ?_
      refine h_iastN (j := ns) dX12_station_33 rfl rfl (by omega) rfl ?_
      refine h_aload_n dX12_station_34 rfl ?_
      refine h_dup dX12_station_35 rfl ?_
      refine h_getI dX12_station_36 f_X12_102_10 rfl hns ?_
      refine h_iconst dX12_station_39 ci_1 ?_
      refine h_iaddN dX12_station_40 ?_
      refine h_putI dX12_station_41 f_X12_102_10 p_X12_10_0 (fun h => by cases h) rfl ?_
      refine h_aload_n dX12_station_44 rfl ?_
      refine h_getI dX12_station_45 f_X12_102_10 rfl (show _ = nI (ns + 1) from rfl) ?_
      refine h_iconst dX12_station_48 ci_1 ?_
      refine h_isubN dX12_station_49 (by omega) ?_
      refine h_ireturn dX12_station_50 rfl ?_
      rw [Nat.add_sub_cancel]
      exact hO pv rfl hpv (by omega)
    · rw [nI_eq (by omega) (by omega)] at c_18
      refine h_bipush dX12_station_21 cb_m2 ?_
      refine h_ireturn dX12_station_23 rfl ?_
      exact hF ok0 (by omega)
  · refine h_ifne (tgt := 12) dX12_station_7 rfl (fun c => absurd (by decide) c) (fun _ => ?_)
    refine h_iconst dX12_station_10 ci_m1 ?_
    refine h_ireturn dX12_station_11 rfl ?_
    exact hB b1
theorem c_leg2 {l : Launch} {dp : Nat} {ns nl : Nat} {pl fa fb sl : Nat → Nat} {rs : Nat → Int32} {I : hI} {J : hJ} {lt tx : Option Nat} {x y r wv : Int32} {Q : hQ} (hN : cN I 2 ns nl pl fa fb sl rs) (hw : netW ns nl pl fa fb sl rs) (hB : ¬ legOk ns x y r wv → Q (some (.int (-1))) hSH I J (hRR lt tx)) (hF : legOk ns x y r wv → nl = 12 → Q (some (.int (-2))) hSH I J (hRR lt tx)) (hO : ∀ a b w, x = nI a → y = nI b → wv = nI w → a < ns → b < ns → a ≠ b → 1 ≤ w → w ≤ 9 → -99 ≤ r.toInt → r.toInt ≤ 99 → nl < 12 → ∀ g1 g2 g3, (∀ s, s < ns → g1 s = enc (dist (upn fa nl a) (upn fb nl b) (upn sl nl w) (nl + 1) s)) → (∀ s, s < ns → g2 s = lsI (upn fa nl a) (upn fb nl b) (upn sl nl w) (dist (upn fa nl a) (upn fb nl b) (upn sl nl w) (nl + 1)) (nl + 1) s) → (∀ s, s < ns → g3 s = lvl (upn fa nl a) (upn fb nl b) (upn sl nl w) (upd rs nl r) (nl + 1) s) → Q (some (.int (nI nl))) hSH (upA (upA (upA (upI (upI (upI (upI (upI I 4 nl (nI a)) 5 nl (nI b)) 6 nl r) 7 nl (nI w)) 2 2 (nI (nl + 1))) 8 g1) 9 g2) 10 g3) J (hRR lt tx)) : HC l mX11_leg (dp + 4) 0 0 [.ref 0, .int x, .int y, .int r, .int wv] hSH I J (hRR lt tx) Q := by
  refine HC.of (by decide +kernel) rfl (Nat.le_of_ble_eq_true rfl) ?_
  show HV l mX11_leg (dp + 4) 0 0 0 [some (.ref 0), some (.int x), some (.int y), some (.int r), some (.int wv)] [] hSH I J (hRR lt tx) Q
  obtain ⟨hns, hnl, hpl, hlg⟩ := id hN
  obtain ⟨hn6, hl12, hW, hp99, hr99⟩ := id hw
  refine h_aload_n dX11_leg_0 rfl ?_
  refine h_iload_n dX11_leg_1 rfl ?_
  refine h_cV1 dX11_leg_2 k2_188 oVX11_isStation rfl rfl ?_
  refine c_isStation (n := ns) hns (by omega) (fun b1 => ?_) (fun b1 => ?_)
  · refine h_ifeq (tgt := 36) dX11_leg_5 rfl (fun c => absurd c (by decide)) (fun _ => ?_)
    refine h_aload_n dX11_leg_8 rfl ?_
    refine h_iload_n dX11_leg_9 rfl ?_
    refine h_cV1 dX11_leg_10 k2_188 oVX11_isStation rfl rfl ?_
    refine c_isStation (n := ns) hns (by omega) (fun b2 => ?_) (fun b2 => ?_)
    · refine h_ifeq (tgt := 36) dX11_leg_13 rfl (fun c => absurd c (by decide)) (fun _ => ?_)
      refine h_iload_n dX11_leg_16 rfl ?_
      refine h_iload_n dX11_leg_17 rfl ?_
      refine h_icmpeq (tgt := 36) dX11_leg_18 rfl (fun c_18 => ?_) (fun c_18 => ?_)
      · refine h_iconst dX11_leg_36 ci_m1 ?_
        refine h_ireturn dX11_leg_37 rfl ?_
        exact hB (fun z => z.2.2.1 c_18)
      · refine h_iload_n dX11_leg_21 rfl ?_
        refine h_cS1 dX11_leg_22 k2_192 oSX11_isRise rfl ?_
        refine c_X11_isRise (fun b3 => ?_) (fun b3 => ?_)
        · refine h_ifeq (tgt := 36) dX11_leg_25 rfl (fun c => absurd c (by decide)) (fun _ => ?_)
          refine h_iload dX11_leg_28 rfl ?_
          refine h_cS1 dX11_leg_30 k2_195 oSX11_isSlip rfl ?_
          refine c_X11_isSlip (fun b4 => ?_) (fun b4 => ?_)
          · have hok : legOk ns x y r wv := ⟨b1, b2, c_18, b3, b4⟩
            have ok0 : legOk ns x y r wv := hok
            obtain ⟨⟨a, ha, rfl⟩, ⟨b, hb, rfl⟩, hne, hr, hwv⟩ := hok
            obtain ⟨w, rfl, hw1, hw9⟩ := rng_ex (by omega) (by omega) hwv.1 hwv.2
            obtain ⟨hr1, hr2⟩ := r99 hr
            have hab : a ≠ b := fun e => hne (by rw [e])
            refine h_ifne (tgt := 38) dX11_leg_33 rfl (fun _ => ?_) (fun c => absurd c (by decide))
            refine h_aload_n dX11_leg_38 rfl ?_
            refine h_getR dX11_leg_39 f_X11_20_9 rfl rfl ?_
            refine h_getI dX11_leg_42 f_X11_124_5 rfl hnl ?_
            refine h_bipush dX11_leg_45 cb_12 ?_
            refine h_icmplt (tgt := 53) dX11_leg_47 rfl (fun c_47 => ?_) (fun c_47 => ?_)
            · rw [nI_ltI (by omega) (by omega)] at c_47
              refine h_aload_n dX11_leg_53 rfl ?_
              refine h_getR dX11_leg_54 f_X11_20_9 rfl rfl ?_
              refine h_iload_n dX11_leg_57 rfl ?_
              refine h_iload_n dX11_leg_58 rfl ?_
              refine h_iload_n dX11_leg_59 rfl ?_
              refine h_iload dX11_leg_60 rfl ?_
              refine h_cV4 dX11_leg_62 k2_198 oVX5_addLeg rfl rfl ?_
              refine c_addLegE hN hw (by omega) ha hb hab hw1 hw9 hr1 hr2 (fun g1 g2 g3 e1 e2 e3 => ?_)
              refine h_ireturn dX11_leg_65 rfl ?_
              exact hO a b w rfl rfl rfl ha hb hab hw1 hw9 hr1 hr2 (by omega) g1 g2 g3 e1 e2 e3
            · rw [nI_ltI (by omega) (by omega)] at c_47
              refine h_bipush dX11_leg_50 cb_m2 ?_
              refine h_ireturn dX11_leg_52 rfl ?_
              exact hF ok0 (by omega)
          · refine h_ifne (tgt := 38) dX11_leg_33 rfl (fun c => absurd (by decide) c) (fun _ => ?_)
            refine h_iconst dX11_leg_36 ci_m1 ?_
            refine h_ireturn dX11_leg_37 rfl ?_
            exact hB (fun z => b4 z.2.2.2.2)
        · refine h_ifeq (tgt := 36) dX11_leg_25 rfl (fun _ => ?_) (fun c => absurd (by decide) c)
          refine h_iconst dX11_leg_36 ci_m1 ?_
          refine h_ireturn dX11_leg_37 rfl ?_
          exact hB (fun z => b3 z.2.2.2.1)
    · refine h_ifeq (tgt := 36) dX11_leg_13 rfl (fun _ => ?_) (fun c => absurd (by decide) c)
      refine h_iconst dX11_leg_36 ci_m1 ?_
      refine h_ireturn dX11_leg_37 rfl ?_
      exact hB (fun z => b2 z.2.1)
  · refine h_ifeq (tgt := 36) dX11_leg_5 rfl (fun _ => ?_) (fun c => absurd (by decide) c)
    refine h_iconst dX11_leg_36 ci_m1 ?_
    refine h_ireturn dX11_leg_37 rfl ?_
    exact hB (fun z => b1 z.1)
theorem r_leg2 {l : Launch} {dp : Nat} {ns nl : Nat} {pl fa fb sl : Nat → Nat} {rs : Nat → Int32} {I : hI} {J : hJ} {lt tx : Option Nat} {x y r wv : Int32} {Q : hQ} (hN : rN I ns nl pl fa fb sl rs) (hw : netW ns nl pl fa fb sl rs) (hB : ¬ legOk ns x y r wv → Q (some (.int (-1))) hSH I J (hRR lt tx)) (hF : legOk ns x y r wv → nl = 12 → Q (some (.int (-2))) hSH I J (hRR lt tx)) (hO : ∀ a b w, x = nI a → y = nI b → wv = nI w → a < ns → b < ns → a ≠ b → 1 ≤ w → w ≤ 9 → -99 ≤ r.toInt → r.toInt ≤ 99 → nl < 12 → Q (some (.int (nI nl))) hSH (upI (upI (upI (upI (upI I 84 (4 * nl) (nI a)) 84 (4 * nl + 1) (nI b)) 84 (4 * nl + 2) r) 84 (4 * nl + 3) (nI w)) 82 2 (nI (nl + 1))) J (hRR lt tx)) : HC l mX12_leg (dp + 2) 0 0 [.ref 82, .int x, .int y, .int r, .int wv] hSH I J (hRR lt tx) Q := by
  refine HC.of (by decide +kernel) rfl (Nat.le_of_ble_eq_true rfl) ?_
  show HV l mX12_leg (dp + 2) 0 0 0 [some (.ref 82), some (.int x), some (.int y), some (.int r), some (.int wv)] [] hSH I J (hRR lt tx) Q
  obtain ⟨hns, hnl, hpl, hlg⟩ := id hN
  obtain ⟨hn6, hl12, hW, hp99, hr99⟩ := id hw
  refine h_aload_n dX12_leg_0 rfl ?_
  refine h_iload_n dX12_leg_1 rfl ?_
  refine h_cV1 dX12_leg_2 k5_179 oVX12_isStation rfl rfl ?_
  refine r_isStation (n := ns) hns (by omega) (fun b1 => ?_) (fun b1 => ?_)
  · refine h_ifeq (tgt := 43) dX12_leg_5 rfl (fun c => absurd c (by decide)) (fun _ => ?_)
    refine h_aload_n dX12_leg_8 rfl ?_
    refine h_iload_n dX12_leg_9 rfl ?_
    refine h_cV1 dX12_leg_10 k5_179 oVX12_isStation rfl rfl ?_
    refine r_isStation (n := ns) hns (by omega) (fun b2 => ?_) (fun b2 => ?_)
    · refine h_ifeq (tgt := 43) dX12_leg_13 rfl (fun c => absurd c (by decide)) (fun _ => ?_)
      refine h_iload_n dX12_leg_16 rfl ?_
      refine h_iload_n dX12_leg_17 rfl ?_
      refine h_icmpeq (tgt := 43) dX12_leg_18 rfl (fun c_18 => ?_) (fun c_18 => ?_)
      · refine h_iconst dX12_leg_43 ci_m1 ?_
        refine h_ireturn dX12_leg_44 rfl ?_
        exact hB (fun z => z.2.2.1 c_18)
      · refine h_iload_n dX12_leg_21 rfl ?_
        refine h_bipush dX12_leg_22 cb_m99 ?_
        refine h_bipush dX12_leg_24 cb_99 ?_
        refine h_cS3 dX12_leg_26 k5_172 oSX12_in rfl ?_
        refine c_X12_in (fun b3 => ?_) (fun b3 => ?_)
        · refine h_ifeq (tgt := 43) dX12_leg_29 rfl (fun c => absurd c (by decide)) (fun _ => ?_)
          refine h_iload dX12_leg_32 rfl ?_
          refine h_iconst dX12_leg_34 ci_1 ?_
          refine h_bipush dX12_leg_35 cb_9 ?_
          refine h_cS3 dX12_leg_37 k5_172 oSX12_in rfl ?_
          refine c_X12_in (fun b4 => ?_) (fun b4 => ?_)
          · have hok : legOk ns x y r wv := ⟨b1, b2, c_18, b3, b4⟩
            have ok0 : legOk ns x y r wv := hok
            obtain ⟨⟨a, ha, rfl⟩, ⟨b, hb, rfl⟩, hne, hr, hwv⟩ := hok
            obtain ⟨w, rfl, hw1, hw9⟩ := rng_ex (by omega) (by omega) hwv.1 hwv.2
            obtain ⟨hr1, hr2⟩ := r99 hr
            have hab : a ≠ b := fun e => hne (by rw [e])
            refine h_ifne (tgt := 45) dX12_leg_40 rfl (fun _ => ?_) (fun c => absurd c (by decide))
            refine h_aload_n dX12_leg_45 rfl ?_
            refine h_getI dX12_leg_46 f_X12_120_10 rfl hnl ?_
            refine h_bipush dX12_leg_49 cb_12 ?_
            refine h_icmpne (tgt := 57) dX12_leg_51 rfl (fun c_51 => ?_) (fun c_51 => ?_)
            · rw [nI_eq (by omega) (by omega)] at c_51
              refine h_aload_n dX12_leg_57 rfl ?_
              refine h_getR dX12_leg_58 f_X12_13_10 rfl rfl ?_
              refine h_iconst dX12_leg_61 ci_4 ?_
              refine h_aload_n dX12_leg_62 rfl ?_
              refine h_getI dX12_leg_63 f_X12_120_10 rfl hnl ?_
              refine h_imulN dX12_leg_66 ?_
              refine h_iload_n dX12_leg_67 rfl ?_
              refine h_iastN (j := 4 * nl) dX12_leg_68 rfl rfl (by omega) rfl ?_
              refine h_aload_n dX12_leg_69 rfl ?_
              refine h_getR dX12_leg_70 f_X12_13_10 rfl rfl ?_
              refine h_iconst dX12_leg_73 ci_4 ?_
              refine h_aload_n dX12_leg_74 rfl ?_
              refine h_getI dX12_leg_75 f_X12_120_10 rfl hnl ?_
              refine h_imulN dX12_leg_78 ?_
              refine h_iconst dX12_leg_79 ci_1 ?_
              refine h_iaddN dX12_leg_80 ?_
              refine h_iload_n dX12_leg_81 rfl ?_
              refine h_iastN (j := (4 * nl) + 1) dX12_leg_82 rfl rfl (by omega) rfl ?_
              refine h_aload_n dX12_leg_83 rfl ?_
              refine h_getR dX12_leg_84 f_X12_13_10 rfl rfl ?_
              refine h_iconst dX12_leg_87 ci_4 ?_
              refine h_aload_n dX12_leg_88 rfl ?_
              refine h_getI dX12_leg_89 f_X12_120_10 rfl hnl ?_
              refine h_imulN dX12_leg_92 ?_
              refine h_iconst dX12_leg_93 ci_2 ?_
              refine h_iaddN dX12_leg_94 ?_
              refine h_iload_n dX12_leg_95 rfl ?_
              refine h_iastN (j := (4 * nl) + 2) dX12_leg_96 rfl rfl (by omega) rfl ?_
              refine h_aload_n dX12_leg_97 rfl ?_
              refine h_getR dX12_leg_98 f_X12_13_10 rfl rfl ?_
              refine h_iconst dX12_leg_101 ci_4 ?_
              refine h_aload_n dX12_leg_102 rfl ?_
              refine h_getI dX12_leg_103 f_X12_120_10 rfl hnl ?_
              refine h_imulN dX12_leg_106 ?_
              refine h_iconst dX12_leg_107 ci_3 ?_
              refine h_iaddN dX12_leg_108 ?_
              refine h_iload dX12_leg_109 rfl ?_
              refine h_iastN (j := (4 * nl) + 3) dX12_leg_111 rfl rfl (by omega) rfl ?_
              refine h_aload_n dX12_leg_112 rfl ?_
              refine h_dup dX12_leg_113 rfl ?_
              refine h_getI dX12_leg_114 f_X12_120_10 rfl hnl ?_
              refine h_iconst dX12_leg_117 ci_1 ?_
              refine h_iaddN dX12_leg_118 ?_
              refine h_putI dX12_leg_119 f_X12_120_10 p_X12_10_2 (fun h => by cases h) rfl ?_
              refine h_aload_n dX12_leg_122 rfl ?_
              refine h_getI dX12_leg_123 f_X12_120_10 rfl (show _ = nI (nl + 1) from rfl) ?_
              refine h_iconst dX12_leg_126 ci_1 ?_
              refine h_isubN dX12_leg_127 (by omega) ?_
              refine h_ireturn dX12_leg_128 rfl ?_
              rw [Nat.add_sub_cancel]
              exact hO a b w rfl rfl rfl ha hb hab hw1 hw9 hr1 hr2 (by omega)
            · rw [nI_eq (by omega) (by omega)] at c_51
              refine h_bipush dX12_leg_54 cb_m2 ?_
              refine h_ireturn dX12_leg_56 rfl ?_
              exact hF ok0 (by omega)
          · refine h_ifne (tgt := 45) dX12_leg_40 rfl (fun c => absurd (by decide) c) (fun _ => ?_)
            refine h_iconst dX12_leg_43 ci_m1 ?_
            refine h_ireturn dX12_leg_44 rfl ?_
            exact hB (fun z => b4 z.2.2.2.2)
        · refine h_ifeq (tgt := 43) dX12_leg_29 rfl (fun _ => ?_) (fun c => absurd (by decide) c)
          refine h_iconst dX12_leg_43 ci_m1 ?_
          refine h_ireturn dX12_leg_44 rfl ?_
          exact hB (fun z => b3 z.2.2.2.1)
    · refine h_ifeq (tgt := 43) dX12_leg_13 rfl (fun _ => ?_) (fun c => absurd (by decide) c)
      refine h_iconst dX12_leg_43 ci_m1 ?_
      refine h_ireturn dX12_leg_44 rfl ?_
      exact hB (fun z => b2 z.2.1)
  · refine h_ifeq (tgt := 43) dX12_leg_5 rfl (fun _ => ?_) (fun c => absurd (by decide) c)
    refine h_iconst dX12_leg_43 ci_m1 ?_
    refine h_ireturn dX12_leg_44 rfl ?_
    exact hB (fun z => b1 z.1)
theorem c_point2 {l : Launch} {dp : Nat} {ns nl np ml nk nw : Nat} {pl fa fb sl pp pm ki fr tg wh bw : Nat → Nat} {rs sn : Nat → Int32} {fl : Nat → Bool} {qw : Nat → Nat → Nat → Nat → Bool} {I : hI} {J : hJ} {lt tx : Option Nat} {x y : Int32} {Q : hQ} (hG : cG I ns nl np ml nk nw pl fa fb sl pp pm ki fr tg wh bw rs sn fl qw) (hB : ¬ ((nI 0 ≤ x ∧ x ≤ nI 999) ∧ nI 0 ≤ y ∧ y ≤ nI 99) → Q (some (.int (-1))) hSH I J (hRR lt tx)) (hF : ((nI 0 ≤ x ∧ x ≤ nI 999) ∧ nI 0 ≤ y ∧ y ≤ nI 99) → np = 8 → Q (some (.int (-2))) hSH I J (hRR lt tx)) (hO : ∀ a m, x = nI a → y = nI m → a ≤ 999 → m ≤ 99 → np < 8 → Q (some (.int (nI np))) hSH (upI (upI (upI I 18 np (nI a)) 19 np (nI m)) 1 2 (nI (np + 1))) J (hRR lt tx)) : HC l mX11_point (dp + 2) 0 0 [.ref 0, .int x, .int y] hSH I J (hRR lt tx) Q := by
  refine HC.of (by decide +kernel) rfl (Nat.le_of_ble_eq_true rfl) ?_
  show HV l mX11_point (dp + 2) 0 0 0 [some (.ref 0), some (.int x), some (.int y)] [] hSH I J (hRR lt tx) Q
  obtain ⟨⟨hN, hdo, hla, hlv⟩, hw, ⟨hnp, hml, hnk, hpt, hsi, hbt⟩, ⟨hn8, hm2, hn24, hpW, hsW⟩, hL⟩ := id hG
  obtain ⟨hns, hnl, hpl, hlg⟩ := id hN
  obtain ⟨hn6, hl12, hW, hp99, hr99⟩ := id hw
  refine h_iload_n dX11_point_0 rfl ?_
  refine h_iconst dX11_point_1 ci_0 ?_
  refine h_sipush dX11_point_2 cs_999 ?_
  refine h_cS3 dX11_point_5 k2_154 oSX11_within rfl ?_
  refine c_X11_within (fun b1 => ?_) (fun b1 => ?_)
  · refine h_ifeq (tgt := 18) dX11_point_8 rfl (fun c => absurd c (by decide)) (fun _ => ?_)
    refine h_iload_n dX11_point_11 rfl ?_
    refine h_cS1 dX11_point_12 k3_0 oSX11_isMass rfl ?_
    refine c_X11_isMass (fun b2 => ?_) (fun b2 => ?_)
    · have ok0 : ((nI 0 ≤ x ∧ x ≤ nI 999) ∧ nI 0 ≤ y ∧ y ≤ nI 99) := ⟨b1, b2⟩
      obtain ⟨a, rfl, -, ha⟩ := rng_ex (by omega) (by omega) b1.1 b1.2
      obtain ⟨m, rfl, -, hm⟩ := rng_ex (by omega) (by omega) b2.1 b2.2
      refine h_ifne (tgt := 20) dX11_point_15 rfl (fun _ => ?_) (fun c => absurd c (by decide))
      refine h_aload_n dX11_point_20 rfl ?_
      refine h_getR dX11_point_21 f_X11_10_9 rfl rfl ?_
      refine h_getI dX11_point_24 f_X11_166_8 rfl hnp ?_
      refine h_bipush dX11_point_27 cb_8 ?_
      refine h_icmplt (tgt := 35) dX11_point_29 rfl (fun c_29 => ?_) (fun c_29 => ?_)
      · rw [nI_ltI (by omega) (by omega)] at c_29
        refine h_aload_n dX11_point_35 rfl ?_
        refine h_getR dX11_point_36 f_X11_10_9 rfl rfl ?_
        refine h_iload_n dX11_point_39 rfl ?_
        refine h_iload_n dX11_point_40 rfl ?_
        refine h_cV2 dX11_point_41 k3_3 oVX10_addPoint rfl rfl ?_
        refine c_addPoint hG (by omega) ?_
        refine h_ireturn dX11_point_44 rfl ?_
        exact hO a m rfl rfl ha hm (by omega)
      · rw [nI_ltI (by omega) (by omega)] at c_29
        refine h_bipush dX11_point_32 cb_m2 ?_
        refine h_ireturn dX11_point_34 rfl ?_
        exact hF ok0 (by omega)
    · refine h_ifne (tgt := 20) dX11_point_15 rfl (fun c => absurd (by decide) c) (fun _ => ?_)
      refine h_iconst dX11_point_18 ci_m1 ?_
      refine h_ireturn dX11_point_19 rfl ?_
      exact hB (fun z => b2 z.2)
  · refine h_ifeq (tgt := 18) dX11_point_8 rfl (fun _ => ?_) (fun c => absurd (by decide) c)
    refine h_iconst dX11_point_18 ci_m1 ?_
    refine h_ireturn dX11_point_19 rfl ?_
    exact hB (fun z => b1 z.1)
theorem r_point2 {l : Launch} {dp : Nat} {ns nl np ml nk nw : Nat} {pl fa fb sl pp pm ki fr tg wh bw : Nat → Nat} {rs sn : Nat → Int32} {fl : Nat → Bool} {qw : Nat → Nat → Nat → Nat → Bool} {I : hI} {J : hJ} {lt tx : Option Nat} {x y : Int32} {Q : hQ} (hG : rG I ns nl np ml nk nw pl fa fb sl pp pm ki fr tg wh bw rs sn fl qw) (hB : ¬ ((nI 0 ≤ x ∧ x ≤ nI 999) ∧ nI 0 ≤ y ∧ y ≤ nI 99) → Q (some (.int (-1))) hSH I J (hRR lt tx)) (hF : ((nI 0 ≤ x ∧ x ≤ nI 999) ∧ nI 0 ≤ y ∧ y ≤ nI 99) → np = 8 → Q (some (.int (-2))) hSH I J (hRR lt tx)) (hO : ∀ a m, x = nI a → y = nI m → a ≤ 999 → m ≤ 99 → np < 8 → Q (some (.int (nI np))) hSH (upI (upI (upI I 85 (2 * np) (nI a)) 85 (2 * np + 1) (nI m)) 82 4 (nI (np + 1))) J (hRR lt tx)) : HC l mX12_point (dp + 1) 0 0 [.ref 82, .int x, .int y] hSH I J (hRR lt tx) Q := by
  refine HC.of (by decide +kernel) rfl (Nat.le_of_ble_eq_true rfl) ?_
  show HV l mX12_point (dp + 1) 0 0 0 [some (.ref 82), some (.int x), some (.int y)] [] hSH I J (hRR lt tx) Q
  obtain ⟨hN, hw, ⟨hnp, hml, hnk, hpt, hsi⟩, ⟨hn8, hm2, hn24, hpW, hsW⟩, hL⟩ := id hG
  obtain ⟨hns, hnl, hpl, hlg⟩ := id hN
  obtain ⟨hn6, hl12, hW, hp99, hr99⟩ := id hw
  refine h_iload_n dX12_point_0 rfl ?_
  refine h_iconst dX12_point_1 ci_0 ?_
  refine h_sipush dX12_point_2 cs_999 ?_
  refine h_cS3 dX12_point_5 k5_172 oSX12_in rfl ?_
  refine c_X12_in (fun b1 => ?_) (fun b1 => ?_)
  · refine h_ifeq (tgt := 21) dX12_point_8 rfl (fun c => absurd c (by decide)) (fun _ => ?_)
    refine h_iload_n dX12_point_11 rfl ?_
    refine h_iconst dX12_point_12 ci_0 ?_
    refine h_bipush dX12_point_13 cb_99 ?_
    refine h_cS3 dX12_point_15 k5_172 oSX12_in rfl ?_
    refine c_X12_in (fun b2 => ?_) (fun b2 => ?_)
    · have ok0 : ((nI 0 ≤ x ∧ x ≤ nI 999) ∧ nI 0 ≤ y ∧ y ≤ nI 99) := ⟨b1, b2⟩
      obtain ⟨a, rfl, -, ha⟩ := rng_ex (by omega) (by omega) b1.1 b1.2
      obtain ⟨m, rfl, -, hm⟩ := rng_ex (by omega) (by omega) b2.1 b2.2
      refine h_ifne (tgt := 23) dX12_point_18 rfl (fun _ => ?_) (fun c => absurd c (by decide))
      refine h_aload_n dX12_point_23 rfl ?_
      refine h_getI dX12_point_24 f_X12_110_10 rfl hnp ?_
      refine h_bipush dX12_point_27 cb_8 ?_
      refine h_icmpne (tgt := 35) dX12_point_29 rfl (fun c_29 => ?_) (fun c_29 => ?_)
      · rw [nI_eq (by omega) (by omega)] at c_29
        refine h_aload_n dX12_point_35 rfl ?_
        refine h_getR dX12_point_36 f_X12_16_10 rfl rfl ?_
        refine h_iconst dX12_point_39 ci_2 ?_
        refine h_aload_n dX12_point_40 rfl ?_
        refine h_getI dX12_point_41 f_X12_110_10 rfl hnp ?_
        refine h_imulN dX12_point_44 ?_
        refine h_iload_n dX12_point_45 rfl ?_
        refine h_iastN (j := 2 * np) dX12_point_46 rfl rfl (by omega) rfl ?_
        refine h_aload_n dX12_point_47 rfl ?_
        refine h_getR dX12_point_48 f_X12_16_10 rfl rfl ?_
        refine h_iconst dX12_point_51 ci_2 ?_
        refine h_aload_n dX12_point_52 rfl ?_
        refine h_getI dX12_point_53 f_X12_110_10 rfl hnp ?_
        refine h_imulN dX12_point_56 ?_
        refine h_iconst dX12_point_57 ci_1 ?_
        refine h_iaddN dX12_point_58 ?_
        refine h_iload_n dX12_point_59 rfl ?_
        refine h_iastN (j := (2 * np) + 1) dX12_point_60 rfl rfl (by omega) rfl ?_
        refine h_aload_n dX12_point_61 rfl ?_
        refine h_dup dX12_point_62 rfl ?_
        refine h_getI dX12_point_63 f_X12_110_10 rfl hnp ?_
        refine h_iconst dX12_point_66 ci_1 ?_
        refine h_iaddN dX12_point_67 ?_
        refine h_putI dX12_point_68 f_X12_110_10 p_X12_10_4 (fun h => by cases h) rfl ?_
        refine h_aload_n dX12_point_71 rfl ?_
        refine h_getI dX12_point_72 f_X12_110_10 rfl (show _ = nI (np + 1) from rfl) ?_
        refine h_iconst dX12_point_75 ci_1 ?_
        refine h_isubN dX12_point_76 (by omega) ?_
        refine h_ireturn dX12_point_77 rfl ?_
        rw [Nat.add_sub_cancel]
        exact hO a m rfl rfl ha hm (by omega)
      · rw [nI_eq (by omega) (by omega)] at c_29
        refine h_bipush dX12_point_32 cb_m2 ?_
        refine h_ireturn dX12_point_34 rfl ?_
        exact hF ok0 (by omega)
    · refine h_ifne (tgt := 23) dX12_point_18 rfl (fun c => absurd (by decide) c) (fun _ => ?_)
      refine h_iconst dX12_point_21 ci_m1 ?_
      refine h_ireturn dX12_point_22 rfl ?_
      exact hB (fun z => b2 z.2)
  · refine h_ifeq (tgt := 21) dX12_point_8 rfl (fun _ => ?_) (fun c => absurd (by decide) c)
    refine h_iconst dX12_point_21 ci_m1 ?_
    refine h_ireturn dX12_point_22 rfl ?_
    exact hB (fun z => b1 z.1)
theorem c_sight2 {l : Launch} {dp : Nat} {ns nl np ml nk nw : Nat} {pl fa fb sl pp pm ki fr tg wh bw : Nat → Nat} {rs sn : Nat → Int32} {fl : Nat → Bool} {qw : Nat → Nat → Nat → Nat → Bool} {I : hI} {J : hJ} {lt tx : Option Nat} {x y z u v : Int32} {Q : hQ} (hG : cG I ns nl np ml nk nw pl fa fb sl pp pm ki fr tg wh bw rs sn fl qw) (hB : ¬ sightOk ns np x y z u v → Q (some (.int (-1))) hSH I J (hRR lt tx)) (hF : sightOk ns np x y z u v → nk = 24 → Q (some (.int (-2))) hSH I J (hRR lt tx)) (hO : ∀ kn s p w, x = nI kn → y = nI s → z = nI p → v = nI w → 1 ≤ kn → kn ≤ 5 → s < ns → p < np → -99 ≤ u.toInt → u.toInt ≤ 999 → w / 100 ≤ 23 → w % 100 ≤ 40 → nk < 24 → Q (some (.int (nI nk))) hSH (upI (upI (upI (upI (upI (upI (upI I 20 nk (nI kn)) 21 nk (nI s)) 22 nk (nI p)) 23 nk u) 24 nk (nI w)) 1 12 (I 1 12 &&& ((nI 1 <<< (nI nk &&& 31)) ^^^ -1))) 1 6 (nI (nk + 1))) J (hRR lt tx)) : HC l mX11_sight (dp + 2) 0 0 [.ref 0, .int x, .int y, .int z, .int u, .int v] hSH I J (hRR lt tx) Q := by
  refine HC.of (by decide +kernel) rfl (Nat.le_of_ble_eq_true rfl) ?_
  show HV l mX11_sight (dp + 2) 0 0 0 [some (.ref 0), some (.int x), some (.int y), some (.int z), some (.int u), some (.int v)] [] hSH I J (hRR lt tx) Q
  obtain ⟨⟨hN, hdo, hla, hlv⟩, hw, ⟨hnp, hml, hnk, hpt, hsi, hbt⟩, ⟨hn8, hm2, hn24, hpW, hsW⟩, hL⟩ := id hG
  obtain ⟨hns, hnl, hpl, hlg⟩ := id hN
  obtain ⟨hn6, hl12, hW, hp99, hr99⟩ := id hw
  refine h_iload_n dX11_sight_0 rfl ?_
  refine h_cS1 dX11_sight_1 k3_23 oSX11_isKind rfl ?_
  refine c_X11_isKind (fun b1 => ?_) (fun b1 => ?_)
  · refine h_ifeq (tgt := 39) dX11_sight_4 rfl (fun c => absurd c (by decide)) (fun _ => ?_)
    refine h_aload_n dX11_sight_7 rfl ?_
    refine h_iload_n dX11_sight_8 rfl ?_
    refine h_cV1 dX11_sight_9 k2_188 oVX11_isStation rfl rfl ?_
    refine c_isStation (n := ns) hns (by omega) (fun b2 => ?_) (fun b2 => ?_)
    · refine h_ifeq (tgt := 39) dX11_sight_12 rfl (fun c => absurd c (by decide)) (fun _ => ?_)
      refine h_aload_n dX11_sight_15 rfl ?_
      refine h_iload_n dX11_sight_16 rfl ?_
      refine h_cV1 dX11_sight_17 k3_11 oVX11_isPoint rfl rfl ?_
      refine c_isPoint (n := np) hnp (by omega) (fun b3 => ?_) (fun b3 => ?_)
      · refine h_ifeq (tgt := 39) dX11_sight_20 rfl (fun c => absurd c (by decide)) (fun _ => ?_)
        refine h_iload dX11_sight_23 rfl ?_
        refine h_cS1 dX11_sight_25 k3_26 oSX11_isSlant rfl ?_
        refine c_X11_isSlant (fun b4 => ?_) (fun b4 => ?_)
        · refine h_ifeq (tgt := 39) dX11_sight_28 rfl (fun c => absurd c (by decide)) (fun _ => ?_)
          refine h_iload dX11_sight_31 rfl ?_
          refine h_cS1 dX11_sight_33 k3_29 oSX11_isWhen rfl ?_
          refine c_isWhen (fun w hv hw1 hw2 => ?_) (fun b5 => ?_)
          · have ok0 : sightOk ns np x y z u v := ⟨b1, b2, b3, b4, w, hv, hw1, hw2⟩
            obtain ⟨kn, rfl, hk1, hk5⟩ := rng_ex (by omega) (by omega) b1.1 b1.2
            obtain ⟨s, hs, rfl⟩ := b2
            obtain ⟨p, hp, rfl⟩ := b3
            obtain ⟨hu1, hu2⟩ := r999 b4
            subst hv
            refine h_ifne (tgt := 41) dX11_sight_36 rfl (fun _ => ?_) (fun c => absurd c (by decide))
            refine h_aload_n dX11_sight_41 rfl ?_
            refine h_getR dX11_sight_42 f_X11_10_9 rfl rfl ?_
            refine h_getI dX11_sight_45 f_X11_191_8 rfl hnk ?_
            refine h_bipush dX11_sight_48 cb_24 ?_
            refine h_icmplt (tgt := 56) dX11_sight_50 rfl (fun c_50 => ?_) (fun c_50 => ?_)
            · rw [nI_ltI (by omega) (by omega)] at c_50
              refine h_aload_n dX11_sight_56 rfl ?_
              refine h_getR dX11_sight_57 f_X11_10_9 rfl rfl ?_
              refine h_iload_n dX11_sight_60 rfl ?_
              refine h_iload_n dX11_sight_61 rfl ?_
              refine h_iload_n dX11_sight_62 rfl ?_
              refine h_iload dX11_sight_63 rfl ?_
              refine h_iload dX11_sight_65 rfl ?_
              refine h_cV5 dX11_sight_67 k3_32 oVX10_addSight rfl rfl ?_
              refine c_addSight hG (by omega) ?_
              refine h_ireturn dX11_sight_70 rfl ?_
              exact hO kn s p w rfl rfl rfl rfl hk1 hk5 hs hp hu1 hu2 hw1 hw2 (by omega)
            · rw [nI_ltI (by omega) (by omega)] at c_50
              refine h_bipush dX11_sight_53 cb_m2 ?_
              refine h_ireturn dX11_sight_55 rfl ?_
              exact hF ok0 (by omega)
          · refine h_ifne (tgt := 41) dX11_sight_36 rfl (fun c => absurd (by decide) c) (fun _ => ?_)
            refine h_iconst dX11_sight_39 ci_m1 ?_
            refine h_ireturn dX11_sight_40 rfl ?_
            exact hB (fun q => b5 q.2.2.2.2)
        · refine h_ifeq (tgt := 39) dX11_sight_28 rfl (fun _ => ?_) (fun c => absurd (by decide) c)
          refine h_iconst dX11_sight_39 ci_m1 ?_
          refine h_ireturn dX11_sight_40 rfl ?_
          exact hB (fun q => b4 q.2.2.2.1)
      · refine h_ifeq (tgt := 39) dX11_sight_20 rfl (fun _ => ?_) (fun c => absurd (by decide) c)
        refine h_iconst dX11_sight_39 ci_m1 ?_
        refine h_ireturn dX11_sight_40 rfl ?_
        exact hB (fun q => b3 q.2.2.1)
    · refine h_ifeq (tgt := 39) dX11_sight_12 rfl (fun _ => ?_) (fun c => absurd (by decide) c)
      refine h_iconst dX11_sight_39 ci_m1 ?_
      refine h_ireturn dX11_sight_40 rfl ?_
      exact hB (fun q => b2 q.2.1)
  · refine h_ifeq (tgt := 39) dX11_sight_4 rfl (fun _ => ?_) (fun c => absurd (by decide) c)
    refine h_iconst dX11_sight_39 ci_m1 ?_
    refine h_ireturn dX11_sight_40 rfl ?_
    exact hB (fun q => b1 q.1)
theorem r_sight2 {l : Launch} {dp : Nat} {ns nl np ml nk nw : Nat} {pl fa fb sl pp pm ki fr tg wh bw : Nat → Nat} {rs sn : Nat → Int32} {fl : Nat → Bool} {qw : Nat → Nat → Nat → Nat → Bool} {I : hI} {J : hJ} {lt tx : Option Nat} {x y z u v : Int32} {Q : hQ} (hG : rG I ns nl np ml nk nw pl fa fb sl pp pm ki fr tg wh bw rs sn fl qw) (hB : ¬ sightOk ns np x y z u v → Q (some (.int (-1))) hSH I J (hRR lt tx)) (hF : sightOk ns np x y z u v → nk = 24 → Q (some (.int (-2))) hSH I J (hRR lt tx)) (hO : ∀ kn s p w, x = nI kn → y = nI s → z = nI p → v = nI w → 1 ≤ kn → kn ≤ 5 → s < ns → p < np → -99 ≤ u.toInt → u.toInt ≤ 999 → w / 100 ≤ 23 → w % 100 ≤ 40 → nk < 24 → Q (some (.int (nI nk))) hSH (upI (upI (upI (upI (upI (upI (upI (upI I 86 (7 * nk) (nI kn)) 86 (7 * nk + 1) (nI s)) 86 (7 * nk + 2) (nI p)) 86 (7 * nk + 3) u) 86 (7 * nk + 4) (nI (w / 100))) 86 (7 * nk + 5) (nI (w % 100))) 86 (7 * nk + 6) (nI 1)) 82 7 (nI (nk + 1))) J (hRR lt tx)) : HC l mX12_sight (dp + 2) 0 0 [.ref 82, .int x, .int y, .int z, .int u, .int v] hSH I J (hRR lt tx) Q := by
  refine HC.of (by decide +kernel) rfl (Nat.le_of_ble_eq_true rfl) ?_
  show HV l mX12_sight (dp + 2) 0 0 0 [some (.ref 82), some (.int x), some (.int y), some (.int z), some (.int u), some (.int v)] [] hSH I J (hRR lt tx) Q
  obtain ⟨hN, hw, ⟨hnp, hml, hnk, hpt, hsi⟩, ⟨hn8, hm2, hn24, hpW, hsW⟩, hL⟩ := id hG
  obtain ⟨hns, hnl, hpl, hlg⟩ := id hN
  obtain ⟨hn6, hl12, hW, hp99, hr99⟩ := id hw
  refine h_iload_n dX12_sight_0 rfl ?_
  refine h_iconst dX12_sight_1 ci_1 ?_
  refine h_iconst dX12_sight_2 ci_5 ?_
  refine h_cS3 dX12_sight_3 k5_172 oSX12_in rfl ?_
  refine c_X12_in (fun b1 => ?_) (fun b1 => ?_)
  · refine h_ifeq (tgt := 41) dX12_sight_6 rfl (fun c => absurd c (by decide)) (fun _ => ?_)
    refine h_aload_n dX12_sight_9 rfl ?_
    refine h_iload_n dX12_sight_10 rfl ?_
    refine h_cV1 dX12_sight_11 k5_179 oVX12_isStation rfl rfl ?_
    refine r_isStation (n := ns) hns (by omega) (fun b2 => ?_) (fun b2 => ?_)
    · refine h_ifeq (tgt := 41) dX12_sight_14 rfl (fun c => absurd c (by decide)) (fun _ => ?_)
      refine h_aload_n dX12_sight_17 rfl ?_
      refine h_iload_n dX12_sight_18 rfl ?_
      refine h_cV1 dX12_sight_19 k5_238 oVX12_isPoint rfl rfl ?_
      refine r_isPoint (n := np) hnp (by omega) (fun b3 => ?_) (fun b3 => ?_)
      · refine h_ifeq (tgt := 41) dX12_sight_22 rfl (fun c => absurd c (by decide)) (fun _ => ?_)
        refine h_iload dX12_sight_25 rfl ?_
        refine h_cS1 dX12_sight_27 k6_10 oSX12_isSlant rfl ?_
        refine c_X12_isSlant (fun b4 => ?_) (fun b4 => ?_)
        · refine h_ifeq (tgt := 41) dX12_sight_30 rfl (fun c => absurd c (by decide)) (fun _ => ?_)
          refine h_iload dX12_sight_33 rfl ?_
          refine h_cS1 dX12_sight_35 k6_13 oSX12_isWhen rfl ?_
          refine r_isWhen (fun w hv hw1 hw2 => ?_) (fun b5 => ?_)
          · have ok0 : sightOk ns np x y z u v := ⟨b1, b2, b3, b4, w, hv, hw1, hw2⟩
            obtain ⟨kn, rfl, hk1, hk5⟩ := rng_ex (by omega) (by omega) b1.1 b1.2
            obtain ⟨s, hs, rfl⟩ := b2
            obtain ⟨p, hp, rfl⟩ := b3
            obtain ⟨hu1, hu2⟩ := r999 b4
            subst hv
            refine h_ifne (tgt := 43) dX12_sight_38 rfl (fun _ => ?_) (fun c => absurd c (by decide))
            refine h_aload_n dX12_sight_43 rfl ?_
            refine h_iload_n dX12_sight_44 rfl ?_
            refine h_iload_n dX12_sight_45 rfl ?_
            refine h_iload_n dX12_sight_46 rfl ?_
            refine h_iload dX12_sight_47 rfl ?_
            refine h_iload dX12_sight_49 rfl ?_
            refine h_bipush dX12_sight_51 cb_100 ?_
            refine h_idivN dX12_sight_53 (by omega) (by omega) (by omega) ?_
            refine h_iload dX12_sight_54 rfl ?_
            refine h_bipush dX12_sight_56 cb_100 ?_
            refine h_iremN dX12_sight_58 (by omega) (by omega) (by omega) ?_
            refine h_cV6 dX12_sight_59 k6_16 oVX12_addSight rfl rfl ?_
            refine r_addSight hG ?_
            refine h_ireturn dX12_sight_62 rfl ?_
            by_cases h24 : nk < 24
            · rw [if_pos h24, if_pos h24]
              exact hO kn s p w rfl rfl rfl rfl hk1 hk5 hs hp hu1 hu2 hw1 hw2 h24
            · rw [if_neg h24, if_neg h24]
              exact hF ok0 (by omega)
          · refine h_ifne (tgt := 43) dX12_sight_38 rfl (fun c => absurd (by decide) c) (fun _ => ?_)
            refine h_iconst dX12_sight_41 ci_m1 ?_
            refine h_ireturn dX12_sight_42 rfl ?_
            exact hB (fun q => b5 q.2.2.2.2)
        · refine h_ifeq (tgt := 41) dX12_sight_30 rfl (fun _ => ?_) (fun c => absurd (by decide) c)
          refine h_iconst dX12_sight_41 ci_m1 ?_
          refine h_ireturn dX12_sight_42 rfl ?_
          exact hB (fun q => b4 q.2.2.2.1)
      · refine h_ifeq (tgt := 41) dX12_sight_22 rfl (fun _ => ?_) (fun c => absurd (by decide) c)
        refine h_iconst dX12_sight_41 ci_m1 ?_
        refine h_ireturn dX12_sight_42 rfl ?_
        exact hB (fun q => b3 q.2.2.1)
    · refine h_ifeq (tgt := 41) dX12_sight_14 rfl (fun _ => ?_) (fun c => absurd (by decide) c)
      refine h_iconst dX12_sight_41 ci_m1 ?_
      refine h_ireturn dX12_sight_42 rfl ?_
      exact hB (fun q => b2 q.2.1)
  · refine h_ifeq (tgt := 41) dX12_sight_6 rfl (fun _ => ?_) (fun c => absurd (by decide) c)
    refine h_iconst dX12_sight_41 ci_m1 ?_
    refine h_ireturn dX12_sight_42 rfl ?_
    exact hB (fun q => b1 q.1)
theorem c_feed2 {l : Launch} {dp : Nat} {nt : Nat} {tp : Nat → Nat} {I : hI} {J : hJ} {lt tx : Option Nat} {v : Int64} {n : Int32} {Q : hQ} (hT : cT I nt tp) (hB : ¬ (nI 1 ≤ n ∧ n ≤ nI 8) → Q (some (.int (-1))) hSH I J (hRR lt tx)) (hF : ∀ k, n = nI k → 1 ≤ k → k ≤ 8 → 200 < nt + k → Q (some (.int (-2))) hSH I J (hRR lt tx)) (hO : ∀ k, n = nI k → 1 ≤ k → k ≤ 8 → nt + k ≤ 200 → ∀ I2, FC I I2 → cT I2 (nt + k) (tpU tp nt v k) → Q (some (.int (nI (nt + k)))) hSH I2 J (hRR lt tx)) : HC l mX11_feed (dp + 1) 0 0 [.ref 0, .long v, .int n] hSH I J (hRR lt tx) Q := by
  refine HC.of (by decide +kernel) rfl (Nat.le_of_ble_eq_true rfl) ?_
  obtain ⟨hnt, ht2, htp⟩ := id hT
  have Lo : ∀ (k : Nat), n = nI k → 1 ≤ k → k ≤ 8 → nt + k ≤ 200 → ∀ (m i : Nat) (I2 : hI), k - i < m → i ≤ k → FC I I2 → I2 0 7 = nI (nt) → (∀ j, j < nt + i → tpU tp nt v i j < 256 ∧ I2 61 j = (nI (tpU tp nt v i j)).toInt8.toInt32) → HV l mX11_feed (dp + 1) 0 0 30 [some (.ref 0), some (.long v), none, some (.int (nI k)), some (.int (nI i))] [] hSH I2 J (hRR lt tx) Q := by
    intro k hk k1 k8 k2 m
    induction m with
    | zero => intro i I2 h1 h2 hP hn hc; omega
    | succ m ih =>
      intro i I2 h1 h2 hP hn hc
      have hP0 := hP
      obtain ⟨g61, v0_7, rfl⟩ := hP
      refine h_iload dX11_feed_30 rfl ?_
      refine h_iload_n dX11_feed_32 rfl ?_
      refine h_icmpge (tgt := 63) dX11_feed_33 rfl (fun c_33 => ?_) (fun c_33 => ?_)
      · rw [nI_leI (by omega) (by omega)] at c_33
        refine h_aload_n dX11_feed_63 rfl ?_
        refine h_dup dX11_feed_64 rfl ?_
        refine h_getI dX11_feed_65 f_X11_43_9 rfl hn ?_
        refine h_iload_n dX11_feed_68 rfl ?_
        refine h_iaddN dX11_feed_69 ?_
        refine h_putI dX11_feed_70 f_X11_43_9 p_X11_9_7 (fun h => by cases h) rfl ?_
        refine h_aload_n dX11_feed_73 rfl ?_
        refine h_getI dX11_feed_74 f_X11_43_9 rfl (show _ = nI (nt + k) from rfl) ?_
        refine h_ireturn dX11_feed_77 rfl ?_
        have ek : k = i := by omega
        subst ek
        refine hO k hk k1 k8 k2 _ (FC_tr hP0 (FC_iff.mpr ⟨fun x h61 h0 => by simp [upI, h61, h0], fun j q => by simp [upI, upd, q]⟩)) ⟨rfl, k2, hc⟩
      · rw [nI_leI (by omega) (by omega)] at c_33
        refine h_aload_n dX11_feed_36 rfl ?_
        refine h_getR dX11_feed_37 f_X11_39_9 rfl rfl ?_
        refine h_aload_n dX11_feed_40 rfl ?_
        refine h_getI dX11_feed_41 f_X11_43_9 rfl hn ?_
        refine h_iload dX11_feed_44 rfl ?_
        refine h_iaddN dX11_feed_46 ?_
        refine h_lload_n dX11_feed_47 rfl ?_
        refine h_bipush dX11_feed_48 cb_8 ?_
        refine h_iload dX11_feed_50 rfl ?_
        refine h_imulN dX11_feed_52 ?_
        refine h_lushr dX11_feed_53 ?_
        refine h_l2i dX11_feed_54 ?_
        refine h_i2b dX11_feed_55 ?_
        refine h_bastN (j := nt + i) dX11_feed_56 rfl rfl (by omega) rfl ?_
        refine h_iinc (v := nI (i + 1)) dX11_feed_57 rfl (nI_1 _) (Nat.le_of_ble_eq_true rfl) ?_
        refine h_goto (tgt := 30) dX11_feed_60 rfl ?_
        refine ih (i + 1) _ (by omega) (by omega) ?_ ?_ ?_
        · exact FC_tr hP0 (FC_iff.mpr ⟨fun x h61 h0 => by simp [upI, h61, h0], fun j q => by simp [upI, upd, q]⟩)
        · exact hn
        · intro j hj
          show _ ∧ upd _ (nt + i) _ j = _
          by_cases e : j = nt + i
          · subst e
            rw [upd_s, tpU_s]
            exact ⟨(byt_r v i).1, byt_c v i⟩
          · rw [upd_n _ _ e, tpU_n (by omega)]
            exact hc j (by omega)
  show HV l mX11_feed (dp + 1) 0 0 0 [some (.ref 0), some (.long v), none, some (.int n), none] [] hSH I J (hRR lt tx) Q
  refine h_iload_n dX11_feed_0 rfl ?_
  refine h_iconst dX11_feed_1 ci_1 ?_
  refine h_bipush dX11_feed_2 cb_8 ?_
  refine h_cS3 dX11_feed_4 k2_154 oSX11_within rfl ?_
  refine c_X11_within (fun b1 => ?_) (fun b1 => ?_)
  · obtain ⟨k, rfl, k1, k8⟩ := rng_ex (by omega) (by omega) b1.1 b1.2
    refine h_ifne (tgt := 12) dX11_feed_7 rfl (fun _ => ?_) (fun c => absurd c (by decide))
    refine h_aload_n dX11_feed_12 rfl ?_
    refine h_getI dX11_feed_13 f_X11_43_9 rfl hnt ?_
    refine h_iload_n dX11_feed_16 rfl ?_
    refine h_iaddN dX11_feed_17 ?_
    refine h_sipush dX11_feed_18 cs_200 ?_
    refine h_icmple (tgt := 27) dX11_feed_21 rfl (fun c_21 => ?_) (fun c_21 => ?_)
    · rw [nI_leI (by omega) (by omega)] at c_21
      refine h_iconst dX11_feed_27 ci_0 ?_
      refine h_istore dX11_feed_28 (Nat.le_of_ble_eq_true rfl) ?_
      exact Lo k rfl k1 k8 (by omega) (k + 1) 0 _ (by omega) (by omega) (FC_id I) hnt (fun j hj => by rw [tpU_0 (by omega)]; exact htp j (by omega))
    · rw [nI_leI (by omega) (by omega)] at c_21
      refine h_bipush dX11_feed_24 cb_m2 ?_
      refine h_ireturn dX11_feed_26 rfl ?_
      exact hF k rfl k1 k8 (by omega)
  · refine h_ifne (tgt := 12) dX11_feed_7 rfl (fun c => absurd (by decide) c) (fun _ => ?_)
    refine h_iconst dX11_feed_10 ci_m1 ?_
    refine h_ireturn dX11_feed_11 rfl ?_
    exact hB b1
theorem r_feed2 {l : Launch} {dp : Nat} {nt : Nat} {tp : Nat → Nat} {I : hI} {J : hJ} {lt tx : Option Nat} {v : Int64} {n : Int32} {Q : hQ} (hT : rT I nt tp) (hB : ¬ (nI 1 ≤ n ∧ n ≤ nI 8) → Q (some (.int (-1))) hSH I J (hRR lt tx)) (hF : ∀ k, n = nI k → 1 ≤ k → k ≤ 8 → 200 < nt + k → Q (some (.int (-2))) hSH I J (hRR lt tx)) (hO : ∀ k, n = nI k → 1 ≤ k → k ≤ 8 → nt + k ≤ 200 → ∀ I2, FR I I2 → rT I2 (nt + k) (tpU tp nt v k) → Q (some (.int (nI (nt + k)))) hSH I2 J (hRR lt tx)) : HC l mX12_feed (dp + 1) 0 0 [.ref 82, .long v, .int n] hSH I J (hRR lt tx) Q := by
  refine HC.of (by decide +kernel) rfl (Nat.le_of_ble_eq_true rfl) ?_
  obtain ⟨hnt, ht2, htp⟩ := id hT
  have Lo : ∀ (k : Nat), n = nI k → 1 ≤ k → k ≤ 8 → nt + k ≤ 200 → ∀ (m i : Nat) (I2 : hI), k - i < m → i ≤ k → FR I I2 → I2 82 22 = nI (nt + i) → (∀ j, j < nt + i → tpU tp nt v i j < 256 ∧ I2 96 j = nI (tpU tp nt v i j)) → HV l mX12_feed (dp + 1) 0 0 30 [some (.ref 82), some (.long v), none, some (.int (nI k)), some (.int (nI i))] [] hSH I2 J (hRR lt tx) Q := by
    intro k hk k1 k8 k2 m
    induction m with
    | zero => intro i I2 h1 h2 hP hn hc; omega
    | succ m ih =>
      intro i I2 h1 h2 hP hn hc
      have hP0 := hP
      obtain ⟨g96, v82_22, rfl⟩ := hP
      refine h_iload dX12_feed_30 rfl ?_
      refine h_iload_n dX12_feed_32 rfl ?_
      refine h_icmpge (tgt := 73) dX12_feed_33 rfl (fun c_33 => ?_) (fun c_33 => ?_)
      · rw [nI_leI (by omega) (by omega)] at c_33
        refine h_aload_n dX12_feed_73 rfl ?_
        refine h_getI dX12_feed_74 f_X12_223_10 rfl hn ?_
        refine h_ireturn dX12_feed_77 rfl ?_
        have ek : k = i := by omega
        subst ek
        exact hO k hk k1 k8 k2 _ hP0 ⟨hn, k2, hc⟩
      · rw [nI_leI (by omega) (by omega)] at c_33
        refine h_aload_n dX12_feed_36 rfl ?_
        refine h_getR dX12_feed_37 f_X12_50_10 rfl rfl ?_
        refine h_aload_n dX12_feed_40 rfl ?_
        refine h_getI dX12_feed_41 f_X12_223_10 rfl hn ?_
        refine h_lload_n dX12_feed_44 rfl ?_
        refine h_bipush dX12_feed_45 cb_8 ?_
        refine h_iload dX12_feed_47 rfl ?_
        refine h_imulN dX12_feed_49 ?_
        refine h_lushr dX12_feed_50 ?_
        refine h_ldc2 dX12_feed_51 k6_129 ?_
        refine h_land dX12_feed_54 ?_
        refine h_l2i dX12_feed_55 ?_
        refine h_iastN (j := nt + i) dX12_feed_56 rfl rfl (by omega) rfl ?_
        refine h_aload_n dX12_feed_57 rfl ?_
        refine h_dup dX12_feed_58 rfl ?_
        refine h_getI dX12_feed_59 f_X12_223_10 rfl hn ?_
        refine h_iconst dX12_feed_62 ci_1 ?_
        refine h_iaddN dX12_feed_63 ?_
        refine h_putI dX12_feed_64 f_X12_223_10 p_X12_10_22 (fun h => by cases h) rfl ?_
        refine h_iinc (v := nI (i + 1)) dX12_feed_67 rfl (nI_1 _) (Nat.le_of_ble_eq_true rfl) ?_
        refine h_goto (tgt := 30) dX12_feed_70 rfl ?_
        refine ih (i + 1) _ (by omega) (by omega) ?_ ?_ ?_
        · exact FR_tr hP0 (FR_iff.mpr ⟨fun x h96 h82 => by simp [upI, h96, h82], fun j q => by simp [upI, upd, q]⟩)
        · exact rfl
        · intro j hj
          show _ ∧ upd _ (nt + i) _ j = _
          by_cases e : j = nt + i
          · subst e
            rw [upd_s, tpU_s]
            exact ⟨(byt_r v i).1, (byt_r v i).2⟩
          · rw [upd_n _ _ e, tpU_n (by omega)]
            exact hc j (by omega)
  show HV l mX12_feed (dp + 1) 0 0 0 [some (.ref 82), some (.long v), none, some (.int n), none] [] hSH I J (hRR lt tx) Q
  refine h_iload_n dX12_feed_0 rfl ?_
  refine h_iconst dX12_feed_1 ci_1 ?_
  refine h_bipush dX12_feed_2 cb_8 ?_
  refine h_cS3 dX12_feed_4 k5_172 oSX12_in rfl ?_
  refine c_X12_in (fun b1 => ?_) (fun b1 => ?_)
  · obtain ⟨k, rfl, k1, k8⟩ := rng_ex (by omega) (by omega) b1.1 b1.2
    refine h_ifne (tgt := 12) dX12_feed_7 rfl (fun _ => ?_) (fun c => absurd c (by decide))
    refine h_aload_n dX12_feed_12 rfl ?_
    refine h_getI dX12_feed_13 f_X12_223_10 rfl hnt ?_
    refine h_iload_n dX12_feed_16 rfl ?_
    refine h_iaddN dX12_feed_17 ?_
    refine h_sipush dX12_feed_18 cs_200 ?_
    refine h_icmple (tgt := 27) dX12_feed_21 rfl (fun c_21 => ?_) (fun c_21 => ?_)
    · rw [nI_leI (by omega) (by omega)] at c_21
      refine h_iconst dX12_feed_27 ci_0 ?_
      refine h_istore dX12_feed_28 (Nat.le_of_ble_eq_true rfl) ?_
      exact Lo k rfl k1 k8 (by omega) (k + 1) 0 _ (by omega) (by omega) (FR_id I) hnt (fun j hj => by rw [tpU_0 (by omega)]; exact htp j (by omega))
    · rw [nI_leI (by omega) (by omega)] at c_21
      refine h_bipush dX12_feed_24 cb_m2 ?_
      refine h_ireturn dX12_feed_26 rfl ?_
      exact hF k rfl k1 k8 (by omega)
  · refine h_ifne (tgt := 12) dX12_feed_7 rfl (fun c => absurd (by decide) c) (fun _ => ?_)
    refine h_iconst dX12_feed_10 ci_m1 ?_
    refine h_ireturn dX12_feed_11 rfl ?_
    exact hB b1
theorem c_mayBe2 {l : Launch} {dp : Nat} {ns nl np ml nk nw : Nat} {pl fa fb sl pp pm ki fr tg wh bw : Nat → Nat} {rs sn : Nat → Int32} {fl : Nat → Bool} {qw : Nat → Nat → Nat → Nat → Bool} {I : hI} {J : hJ} {lt tx : Option Nat} {x y z : Int32} {Q : hQ} (hG : cG I ns nl np ml nk nw pl fa fb sl pp pm ki fr tg wh bw rs sn fl qw) (hB : ¬ (isIx x ns ∧ (-99 ≤ y ∧ y ≤ nI 999) ∧ isWh z) → Q (some (.int (-1))) hSH I J (hRR lt tx)) (hN3 : (isIx x ns ∧ (-99 ≤ y ∧ y ≤ nI 999) ∧ isWh z) → ∀ s, x = nI s → s < ns → ¬ dist fa fb sl nl s < 1000000 → ∀ I', CO I I' → Q (some (.int (-3))) hSH I' J (hRR lt tx)) (hO : (isIx x ns ∧ (-99 ≤ y ∧ y ≤ nI 999) ∧ isWh z) → ∀ s w, x = nI s → z = nI w → s < ns → w ≤ 2340 → dist fa fb sl nl s < 1000000 → ∀ I', CO I I' → Q (some (.int (mkB (fun p => cbl (mbP ns nl np ml nk nw pl fa fb sl pp pm ki fr tg wh bw rs sn fl qw s y w p)) np))) hSH I' J (hRR lt tx)) : HC l mX11_mayBe (dp + 7) 0 0 [.ref 0, .int x, .int y, .int z] hSH I J (hRR lt tx) Q := by
  refine HC.of (by decide +kernel) rfl (Nat.le_of_ble_eq_true rfl) ?_
  obtain ⟨⟨hN, hdo, hla, hlv⟩, hw, ⟨hnp, hml, hnk, hpt, hsi, hbt⟩, ⟨hn8, hm2, hn24, hpW, hsW⟩, hL⟩ := id hG
  obtain ⟨hns, hnl, hpl, hlg⟩ := id hN
  obtain ⟨hn6, hl12, hW, hp99, hr99⟩ := id hw
  have Lo : ∀ (s w : Nat) (hs : s < ns) (hw1 : w / 100 ≤ 23) (hw2 : w % 100 ≤ 40) (hf : dist fa fb sl nl s < 1000000) (hX : ∀ I', CO I I' → Q (some (.int (mkB (fun p => cbl (mbP ns nl np ml nk nw pl fa fb sl pp pm ki fr tg wh bw rs sn fl qw s y w p)) np))) hSH I' J (hRR lt tx)) (m p : Nat) (I2 : hI), CO I I2 → np - p < m → p ≤ np → HV l mX11_mayBe (dp + 7) 0 0 44 [some (.ref 0), some (.int (nI s)), some (.int y), some (.int (nI w)), some (.int (mkB (fun p => cbl (mbP ns nl np ml nk nw pl fa fb sl pp pm ki fr tg wh bw rs sn fl qw s y w p)) p)), some (.int (nI p))] [] hSH I2 J (hRR lt tx) Q := by
    intro s w hs hw1 hw2 hf hX m
    induction m with
    | zero => intro p I2 hC h1 h2 ; omega
    | succ m ih =>
      intro p I2 hC h1 h2 
      obtain ⟨y1, y2, y3, y4, rfl⟩ := hC
      have q1 := hp99 s hs
      refine h_iload dX11_mayBe_44 rfl ?_
      refine h_aload_n dX11_mayBe_46 rfl ?_
      refine h_getR dX11_mayBe_47 f_X11_10_9 rfl rfl ?_
      refine h_getI dX11_mayBe_50 f_X11_166_8 rfl hnp ?_
      refine h_icmpge (tgt := 86) dX11_mayBe_53 rfl (fun c_53 => ?_) (fun c_53 => ?_)
      · rw [nI_leI (by omega) (by omega)] at c_53
        refine h_iload dX11_mayBe_86 rfl ?_
        refine h_ireturn dX11_mayBe_88 rfl ?_
        have ek : np = p := by omega
        subst ek
        exact hX _ ⟨_, _, _, _, rfl⟩
      · rw [nI_leI (by omega) (by omega)] at c_53
        refine h_aload_n dX11_mayBe_56 rfl ?_
        refine h_getR dX11_mayBe_57 f_X11_10_9 rfl rfl ?_
        refine h_iload_n dX11_mayBe_60 rfl ?_
        refine h_iload dX11_mayBe_61 rfl ?_
        refine h_iload_n dX11_mayBe_63 rfl ?_
        refine h_iload_n dX11_mayBe_64 rfl ?_
        refine h_cV4 dX11_mayBe_65 k3_140 oVX10_mayBeSeen rfl rfl ?_
        refine c_mayBeSeen (I := (upA (upA (upA (upA I 11 y1) 25 y2) 26 y3) 27 y4)) hG hs hf (by omega) (by omega) (fun g1 g2 g3 b2 => ?_) (fun g1 g2 g3 b2 => ?_)
        · refine h_ifeq (tgt := 80) dX11_mayBe_68 rfl (fun c => absurd c (by decide)) (fun _ => ?_)
          refine h_iload dX11_mayBe_71 rfl ?_
          refine h_iconst dX11_mayBe_73 ci_1 ?_
          refine h_iload dX11_mayBe_74 rfl ?_
          refine h_ishl dX11_mayBe_76 ?_
          refine h_ior dX11_mayBe_77 ?_
          refine h_istore dX11_mayBe_78 (Nat.le_of_ble_eq_true rfl) ?_
          refine h_iinc (v := nI (p + 1)) dX11_mayBe_80 rfl (nI_1 _) (Nat.le_of_ble_eq_true rfl) ?_
          refine h_goto (tgt := 44) dX11_mayBe_83 rfl ?_
          have h3 := ih (p + 1) _ (CO_tr (I' := (upA (upA (upA (upA I 11 y1) 25 y2) 26 y3) 27 y4)) ⟨_, _, _, _, rfl⟩ (CO_3 _ g1 g2 g3)) (by omega) (by omega)
          rw [mkB_t (P := (fun p => cbl (mbP ns nl np ml nk nw pl fa fb sl pp pm ki fr tg wh bw rs sn fl qw s y w p))) (cbl_t b2)] at h3
          exact h3
        · refine h_ifeq (tgt := 80) dX11_mayBe_68 rfl (fun _ => ?_) (fun c => absurd (by decide) c)
          refine h_iinc (v := nI (p + 1)) dX11_mayBe_80 rfl (nI_1 _) (Nat.le_of_ble_eq_true rfl) ?_
          refine h_goto (tgt := 44) dX11_mayBe_83 rfl ?_
          have h3 := ih (p + 1) _ (CO_tr (I' := (upA (upA (upA (upA I 11 y1) 25 y2) 26 y3) 27 y4)) ⟨_, _, _, _, rfl⟩ (CO_3 _ g1 g2 g3)) (by omega) (by omega)
          rw [mkB_f (P := (fun p => cbl (mbP ns nl np ml nk nw pl fa fb sl pp pm ki fr tg wh bw rs sn fl qw s y w p))) (cbl_f b2)] at h3
          exact h3
  show HV l mX11_mayBe (dp + 7) 0 0 0 [some (.ref 0), some (.int x), some (.int y), some (.int z), none, none] [] hSH I J (hRR lt tx) Q
  refine h_aload_n dX11_mayBe_0 rfl ?_
  refine h_iload_n dX11_mayBe_1 rfl ?_
  refine h_cV1 dX11_mayBe_2 k2_188 oVX11_isStation rfl rfl ?_
  refine c_isStation (n := ns) hns (by omega) (fun b1 => ?_) (fun b1 => ?_)
  · refine h_ifeq (tgt := 22) dX11_mayBe_5 rfl (fun c => absurd c (by decide)) (fun _ => ?_)
    refine h_iload_n dX11_mayBe_8 rfl ?_
    refine h_cS1 dX11_mayBe_9 k3_26 oSX11_isSlant rfl ?_
    refine c_X11_isSlant (fun b2 => ?_) (fun b2 => ?_)
    · refine h_ifeq (tgt := 22) dX11_mayBe_12 rfl (fun c => absurd c (by decide)) (fun _ => ?_)
      refine h_iload_n dX11_mayBe_15 rfl ?_
      refine h_cS1 dX11_mayBe_16 k3_29 oSX11_isWhen rfl ?_
      refine c_isWhen (fun w hv hw1 hw2 => ?_) (fun b4 => ?_)
      · have ok0 : (isIx x ns ∧ (-99 ≤ y ∧ y ≤ nI 999) ∧ isWh z) := ⟨b1, b2, w, hv, hw1, hw2⟩
        obtain ⟨s, hs, rfl⟩ := b1
        subst hv
        refine h_ifne (tgt := 24) dX11_mayBe_19 rfl (fun _ => ?_) (fun c => absurd c (by decide))
        refine h_aload_n dX11_mayBe_24 rfl ?_
        refine h_getR dX11_mayBe_25 f_X11_20_9 rfl rfl ?_
        refine h_iload_n dX11_mayBe_28 rfl ?_
        refine h_cV1 dX11_mayBe_29 k2_223 oVX5_hasLevel rfl rfl ?_
        refine c_hasLevelN (f := dist fa fb sl nl) hns hn6 hdo hs (fun b3 => ?_) (fun b3 => ?_)
        · refine h_ifne (tgt := 38) dX11_mayBe_32 rfl (fun _ => ?_) (fun c => absurd c (by decide))
          refine h_iconst dX11_mayBe_38 ci_0 ?_
          refine h_istore dX11_mayBe_39 (Nat.le_of_ble_eq_true rfl) ?_
          refine h_iconst dX11_mayBe_41 ci_0 ?_
          refine h_istore dX11_mayBe_42 (Nat.le_of_ble_eq_true rfl) ?_
          exact Lo s w hs hw1 hw2 b3 (hO ok0 s w rfl rfl hs (by omega) b3) (np + 1) 0 _ (CO_id I) (by omega) (by omega)
        · refine h_ifne (tgt := 38) dX11_mayBe_32 rfl (fun c => absurd (by decide) c) (fun _ => ?_)
          refine h_bipush dX11_mayBe_35 cb_m3 ?_
          refine h_ireturn dX11_mayBe_37 rfl ?_
          exact hN3 ok0 s rfl hs b3 _ (CO_id I)
      · refine h_ifne (tgt := 24) dX11_mayBe_19 rfl (fun c => absurd (by decide) c) (fun _ => ?_)
        refine h_iconst dX11_mayBe_22 ci_m1 ?_
        refine h_ireturn dX11_mayBe_23 rfl ?_
        exact hB (fun z => b4 z.2.2)
    · refine h_ifeq (tgt := 22) dX11_mayBe_12 rfl (fun _ => ?_) (fun c => absurd (by decide) c)
      refine h_iconst dX11_mayBe_22 ci_m1 ?_
      refine h_ireturn dX11_mayBe_23 rfl ?_
      exact hB (fun z => b2 z.2.1)
  · refine h_ifeq (tgt := 22) dX11_mayBe_5 rfl (fun _ => ?_) (fun c => absurd (by decide) c)
    refine h_iconst dX11_mayBe_22 ci_m1 ?_
    refine h_ireturn dX11_mayBe_23 rfl ?_
    exact hB (fun z => b1 z.1)
theorem r_mayBe2 {l : Launch} {dp : Nat} {ns nl np ml nk nw : Nat} {pl fa fb sl pp pm ki fr tg wh bw : Nat → Nat} {rs sn : Nat → Int32} {fl : Nat → Bool} {qw : Nat → Nat → Nat → Nat → Bool} {I : hI} {J : hJ} {lt tx : Option Nat} {x y z : Int32} {Q : hQ} (hG : rG I ns nl np ml nk nw pl fa fb sl pp pm ki fr tg wh bw rs sn fl qw) (hB : ¬ (isIx x ns ∧ (-99 ≤ y ∧ y ≤ nI 999) ∧ isWh z) → Q (some (.int (-1))) hSH I J (hRR lt tx)) (hN3 : (isIx x ns ∧ (-99 ≤ y ∧ y ≤ nI 999) ∧ isWh z) → ∀ s, x = nI s → s < ns → ¬ dist fa fb sl nl s < 1000000 → ∀ I', RO I I' → Q (some (.int (-3))) hSH I' J (hRR lt tx)) (hO : (isIx x ns ∧ (-99 ≤ y ∧ y ≤ nI 999) ∧ isWh z) → ∀ s w, x = nI s → z = nI w → s < ns → w ≤ 2340 → dist fa fb sl nl s < 1000000 → ∀ I', RO I I' → Q (some (.int (mkB (fun p => cbl (mbP ns nl np ml nk nw pl fa fb sl pp pm ki fr tg wh bw rs sn fl qw s y w p)) np))) hSH I' J (hRR lt tx)) : HC l mX12_mayBe (dp + 6) 0 0 [.ref 82, .int x, .int y, .int z] hSH I J (hRR lt tx) Q := by
  refine HC.of (by decide +kernel) rfl (Nat.le_of_ble_eq_true rfl) ?_
  obtain ⟨hN, hw, ⟨hnp, hml, hnk, hpt, hsi⟩, ⟨hn8, hm2, hn24, hpW, hsW⟩, hL⟩ := id hG
  obtain ⟨hns, hnl, hpl, hlg⟩ := id hN
  obtain ⟨hn6, hl12, hW, hp99, hr99⟩ := id hw
  have Lo : ∀ (s w : Nat) (hs : s < ns) (hw1 : w / 100 ≤ 23) (hw2 : w % 100 ≤ 40) (hf : dist fa fb sl nl s < 1000000) (hX : ∀ I', RO I I' → Q (some (.int (mkB (fun p => cbl (mbP ns nl np ml nk nw pl fa fb sl pp pm ki fr tg wh bw rs sn fl qw s y w p)) np))) hSH I' J (hRR lt tx)) (m p : Nat) (I2 : hI), RO I I2 → rL I2 ns nl fa fb sl rs → np - p < m → p ≤ np → ∀ z6 z7 z8, HV l mX12_mayBe (dp + 6) 0 0 45 [some (.ref 82), some (.int (nI s)), some (.int y), some (.int (nI w)), some (.int (mkB (fun p => cbl (mbP ns nl np ml nk nw pl fa fb sl pp pm ki fr tg wh bw rs sn fl qw s y w p)) p)), some (.int (nI p)), z6, z7, z8] [] hSH I2 J (hRR lt tx) Q := by
    intro s w hs hw1 hw2 hf hX m
    induction m with
    | zero => intro p I2 hC hLv h1 h2 z6 z7 z8; omega
    | succ m ih =>
      intro p I2 hC hLv h1 h2 z6 z7 z8
      obtain ⟨a, b, c, lo, hi, f1, f2, rfl⟩ := hC
      have q1 := hp99 s hs
      have q5 : 100 * (w / 100) + w % 100 = w := by omega
      refine h_iload dX12_mayBe_45 rfl ?_
      refine h_aload_n dX12_mayBe_47 rfl ?_
      refine h_getI dX12_mayBe_48 f_X12_110_10 rfl hnp ?_
      refine h_icmpge (tgt := 175) dX12_mayBe_51 rfl (fun c_51 => ?_) (fun c_51 => ?_)
      · rw [nI_leI (by omega) (by omega)] at c_51
        refine h_iload dX12_mayBe_175 rfl ?_
        refine h_ireturn dX12_mayBe_177 rfl ?_
        have ek : np = p := by omega
        subst ek
        exact hX _ (RO_m I a b c lo hi f1 f2)
      · rw [nI_leI (by omega) (by omega)] at c_51
        refine h_aload_n dX12_mayBe_54 rfl ?_
        refine h_iconst dX12_mayBe_55 ci_2 ?_
        refine h_iload_n dX12_mayBe_56 rfl ?_
        refine h_iload dX12_mayBe_57 rfl ?_
        refine h_iload_n dX12_mayBe_59 rfl ?_
        refine h_aload_n dX12_mayBe_60 rfl ?_
        refine h_iconst dX12_mayBe_61 ci_2 ?_
        refine h_aload_n dX12_mayBe_62 rfl ?_
        refine h_iload_n dX12_mayBe_63 rfl ?_
        refine h_iload dX12_mayBe_64 rfl ?_
        refine h_cV2 dX12_mayBe_66 k5_196 oVX12_awayOf rfl rfl ?_
        refine r_awayOf (I := (rM I a b c lo hi f1 f2)) hG hs (by omega) ?_
        have q4 := aw_le q1 (hpW p (by omega)).1
        refine h_iload_n dX12_mayBe_69 rfl ?_
        refine h_bipush dX12_mayBe_70 cb_100 ?_
        refine h_idivN dX12_mayBe_72 (by omega) (by omega) (by omega) ?_
        refine h_iload_n dX12_mayBe_73 rfl ?_
        refine h_bipush dX12_mayBe_74 cb_100 ?_
        refine h_iremN dX12_mayBe_76 (by omega) (by omega) (by omega) ?_
        refine h_cV4 dX12_mayBe_77 k6_32 oVX12_toldBy rfl rfl ?_
        refine r_toldBy (I := (rM I a b c lo hi f1 f2)) (ki := 2) hL (by omega) q4 hw1 hw2 (fun g1 g2 => ?_)
        rw [q5]
        refine h_cV5 dX12_mayBe_80 k6_62 oVX12_footOf rfl rfl ?_
        refine r_footOf (I := upA (upA (rM I a b c lo hi f1 f2) 101 g1) 102 g2) (kn := 2) hG hLv (by omega) hs (by omega) (rW_le hL) hf ?_
        refine h_istore dX12_mayBe_83 (Nat.le_of_ble_eq_true rfl) ?_
        refine h_iconst dX12_mayBe_85 ci_2 ?_
        refine h_iconst dX12_mayBe_86 ci_0 ?_
        refine h_cS2 dX12_mayBe_87 k6_47 oSX12_slackBy rfl ?_
        refine r_slackBy (ki := 2) (a := 0) (by omega) (by omega) ?_
        refine h_aload_n dX12_mayBe_90 rfl ?_
        refine h_getR dX12_mayBe_91 f_X12_31_10 rfl rfl ?_
        refine h_iload_n dX12_mayBe_94 rfl ?_
        refine h_ialdN (j := s) dX12_mayBe_95 rfl rfl (by omega) rfl (hLv.1 _ (by omega)) ?_
        refine h_iaddN dX12_mayBe_96 ?_
        refine h_istore dX12_mayBe_97 (Nat.le_of_ble_eq_true rfl) ?_
        refine h_aload_n dX12_mayBe_99 rfl ?_
        refine h_iload dX12_mayBe_100 rfl ?_
        refine h_iconst dX12_mayBe_102 ci_m1 ?_
        refine h_cV2 dX12_mayBe_103 k6_78 oVX12_findSpan rfl rfl ?_
        refine r_findSpan (I := upA (upA (rM I a b c lo hi f1 f2) 101 g1) 102 g2) (p := p) (e := -1) hG hLv (by omega) (fun lo2 hi2 g3 g4 y2 => ?_)
        have hcg := spG_congr (lo := loK nl np ml nw pl fa fb sl pp pm ki fr tg wh bw rs sn qw) (hi := hiK nl np ml nw pl fa fb sl pp pm ki fr tg wh bw rs sn qw) nk (fun j hj => inS_e (nl := nl) (fa := fa) (fb := fb) (sl := sl) (fr := fr) (tg := tg) (fl := fl) (p := p) (k := j) (by omega))
        rw [hcg] at y2
        have hcb := cntK_le (P := inS nl fa fb sl fr tg fl p (-1)) nk
        refine h_ifle (tgt := 124) dX12_mayBe_106 rfl (fun c_106 => ?_) (fun c_106 => ?_)
        · rw [show (0 : Int32) = nI 0 from rfl, nI_leI (by omega) (by omega)] at c_106
          have hnn : spG (inS nl fa fb sl fr tg fl p (-9)) (loK nl np ml nw pl fa fb sl pp pm ki fr tg wh bw rs sn qw) (hiK nl np ml nw pl fa fb sl pp pm ki fr tg wh bw rs sn qw) nk = none := hcg.symm.trans ((spG_0 nk).mp (by omega))
          refine h_iconst dX12_mayBe_124 ci_0 ?_
          refine h_istore dX12_mayBe_125 (Nat.le_of_ble_eq_true rfl) ?_
          refine h_iload dX12_mayBe_127 rfl ?_
          refine h_iload dX12_mayBe_129 rfl ?_
          refine h_ifeq (tgt := 165) dX12_mayBe_131 rfl (fun _ => ?_) (fun c => absurd (by decide) c)
          refine h_iconst dX12_mayBe_165 ci_0 ?_
          refine h_ior dX12_mayBe_166 ?_
          refine h_istore dX12_mayBe_167 (Nat.le_of_ble_eq_true rfl) ?_
          refine h_iinc (v := nI (p + 1)) dX12_mayBe_169 rfl (nI_1 _) (Nat.le_of_ble_eq_true rfl) ?_
          refine h_goto (tgt := 45) dX12_mayBe_172 rfl ?_
          have h3 := ih (p + 1) _ (RO_tr (RO_m I a b c lo hi f1 f2) (RO_tr (RO_f _ g1 g2) (RO_s _ lo2 hi2 g3 g4))) hLv (by omega) (by omega)
          rw [mkB_f (P := (fun p => cbl (mbP ns nl np ml nk nw pl fa fb sl pp pm ki fr tg wh bw rs sn fl qw s y w p))) (cbl_f (fun z => by
            obtain ⟨q2, e1, e2, e3, e4⟩ := z
            rw [hnn] at e1
            cases e1))] at h3
          rw [show nI 0 = (0 : Int32) by decide, Int32.or_zero]
          exact h3 _ _ _
        · rw [show (0 : Int32) = nI 0 from rfl, nI_leI (by omega) (by omega)] at c_106
          obtain ⟨q, h9⟩ : ∃ q, spG (inS nl fa fb sl fr tg fl p (-9)) (loK nl np ml nw pl fa fb sl pp pm ki fr tg wh bw rs sn qw) (hiK nl np ml nw pl fa fb sl pp pm ki fr tg wh bw rs sn qw) nk = some q := by
            cases e : spG (inS nl fa fb sl fr tg fl p (-9)) (loK nl np ml nw pl fa fb sl pp pm ki fr tg wh bw rs sn qw) (hiK nl np ml nw pl fa fb sl pp pm ki fr tg wh bw rs sn qw) nk with
            | none => exact absurd ((spG_0 nk).mpr (hcg.trans e)) (by omega)
            | some q => exact ⟨q, rfl⟩
          rw [h9] at y2
          refine h_aload_n dX12_mayBe_109 rfl ?_
          refine h_getI dX12_mayBe_110 f_X12_200_10 rfl (show _ = q.1 from y2.1) ?_
          refine h_aload_n dX12_mayBe_113 rfl ?_
          refine h_getI dX12_mayBe_114 f_X12_203_10 rfl (show _ = q.2 from y2.2) ?_
          refine h_icmpgt (tgt := 124) dX12_mayBe_117 rfl (fun c_117 => ?_) (fun c_117 => ?_)
          · refine h_iconst dX12_mayBe_124 ci_0 ?_
            refine h_istore dX12_mayBe_125 (Nat.le_of_ble_eq_true rfl) ?_
            refine h_iload dX12_mayBe_127 rfl ?_
            refine h_iload dX12_mayBe_129 rfl ?_
            refine h_ifeq (tgt := 165) dX12_mayBe_131 rfl (fun _ => ?_) (fun c => absurd (by decide) c)
            refine h_iconst dX12_mayBe_165 ci_0 ?_
            refine h_ior dX12_mayBe_166 ?_
            refine h_istore dX12_mayBe_167 (Nat.le_of_ble_eq_true rfl) ?_
            refine h_iinc (v := nI (p + 1)) dX12_mayBe_169 rfl (nI_1 _) (Nat.le_of_ble_eq_true rfl) ?_
            refine h_goto (tgt := 45) dX12_mayBe_172 rfl ?_
            have h3 := ih (p + 1) _ (RO_tr (RO_m I a b c lo hi f1 f2) (RO_tr (RO_f _ g1 g2) (RO_s _ lo2 hi2 g3 g4))) hLv (by omega) (by omega)
            rw [mkB_f (P := (fun p => cbl (mbP ns nl np ml nk nw pl fa fb sl pp pm ki fr tg wh bw rs sn fl qw s y w p))) (cbl_f (fun z => by
              obtain ⟨q2, e1, e2, e3, e4⟩ := z
              rw [h9] at e1
              cases e1
              exact e2 c_117))] at h3
            rw [show nI 0 = (0 : Int32) by decide, Int32.or_zero]
            exact h3 _ _ _
          · refine h_iconst dX12_mayBe_120 ci_1 ?_
            refine h_goto (tgt := 125) dX12_mayBe_121 rfl ?_
            refine h_istore dX12_mayBe_125 (Nat.le_of_ble_eq_true rfl) ?_
            refine h_iload dX12_mayBe_127 rfl ?_
            refine h_iload dX12_mayBe_129 rfl ?_
            refine h_ifeq (tgt := 165) dX12_mayBe_131 rfl (fun c => absurd c (by decide)) (fun _ => ?_)
            refine h_iload dX12_mayBe_134 rfl ?_
            refine h_iload dX12_mayBe_136 rfl ?_
            refine h_isub dX12_mayBe_138 ?_
            refine h_aload_n dX12_mayBe_139 rfl ?_
            refine h_getI dX12_mayBe_140 f_X12_203_10 rfl (show _ = q.2 from y2.2) ?_
            refine h_icmpgt (tgt := 165) dX12_mayBe_143 rfl (fun c_143 => ?_) (fun c_143 => ?_)
            · refine h_iconst dX12_mayBe_165 ci_0 ?_
              refine h_ior dX12_mayBe_166 ?_
              refine h_istore dX12_mayBe_167 (Nat.le_of_ble_eq_true rfl) ?_
              refine h_iinc (v := nI (p + 1)) dX12_mayBe_169 rfl (nI_1 _) (Nat.le_of_ble_eq_true rfl) ?_
              refine h_goto (tgt := 45) dX12_mayBe_172 rfl ?_
              have h3 := ih (p + 1) _ (RO_tr (RO_m I a b c lo hi f1 f2) (RO_tr (RO_f _ g1 g2) (RO_s _ lo2 hi2 g3 g4))) hLv (by omega) (by omega)
              rw [mkB_f (P := (fun p => cbl (mbP ns nl np ml nk nw pl fa fb sl pp pm ki fr tg wh bw rs sn fl qw s y w p))) (cbl_f (fun z => by
                obtain ⟨q2, e1, e2, e3, e4⟩ := z
                rw [h9] at e1
                cases e1
                exact absurd e3 (Int32.not_le.mpr c_143)))] at h3
              rw [show nI 0 = (0 : Int32) by decide, Int32.or_zero]
              exact h3 _ _ _
            · refine h_iload dX12_mayBe_146 rfl ?_
              refine h_iload dX12_mayBe_148 rfl ?_
              refine h_iadd dX12_mayBe_150 ?_
              refine h_aload_n dX12_mayBe_151 rfl ?_
              refine h_getI dX12_mayBe_152 f_X12_200_10 rfl (show _ = q.1 from y2.1) ?_
              refine h_icmplt (tgt := 165) dX12_mayBe_155 rfl (fun c_155 => ?_) (fun c_155 => ?_)
              · refine h_iconst dX12_mayBe_165 ci_0 ?_
                refine h_ior dX12_mayBe_166 ?_
                refine h_istore dX12_mayBe_167 (Nat.le_of_ble_eq_true rfl) ?_
                refine h_iinc (v := nI (p + 1)) dX12_mayBe_169 rfl (nI_1 _) (Nat.le_of_ble_eq_true rfl) ?_
                refine h_goto (tgt := 45) dX12_mayBe_172 rfl ?_
                have h3 := ih (p + 1) _ (RO_tr (RO_m I a b c lo hi f1 f2) (RO_tr (RO_f _ g1 g2) (RO_s _ lo2 hi2 g3 g4))) hLv (by omega) (by omega)
                rw [mkB_f (P := (fun p => cbl (mbP ns nl np ml nk nw pl fa fb sl pp pm ki fr tg wh bw rs sn fl qw s y w p))) (cbl_f (fun z => by
                  obtain ⟨q2, e1, e2, e3, e4⟩ := z
                  rw [h9] at e1
                  cases e1
                  exact absurd e4 (Int32.not_le.mpr c_155)))] at h3
                rw [show nI 0 = (0 : Int32) by decide, Int32.or_zero]
                exact h3 _ _ _
              · refine h_iconst dX12_mayBe_158 ci_1 ?_
                refine h_iload dX12_mayBe_159 rfl ?_
                refine h_ishl dX12_mayBe_161 ?_
                refine h_goto (tgt := 166) dX12_mayBe_162 rfl ?_
                refine h_ior dX12_mayBe_166 ?_
                refine h_istore dX12_mayBe_167 (Nat.le_of_ble_eq_true rfl) ?_
                refine h_iinc (v := nI (p + 1)) dX12_mayBe_169 rfl (nI_1 _) (Nat.le_of_ble_eq_true rfl) ?_
                refine h_goto (tgt := 45) dX12_mayBe_172 rfl ?_
                have h3 := ih (p + 1) _ (RO_tr (RO_m I a b c lo hi f1 f2) (RO_tr (RO_f _ g1 g2) (RO_s _ lo2 hi2 g3 g4))) hLv (by omega) (by omega)
                rw [mkB_t (P := (fun p => cbl (mbP ns nl np ml nk nw pl fa fb sl pp pm ki fr tg wh bw rs sn fl qw s y w p))) (cbl_t ⟨q, h9, c_117, Int32.not_lt.mp c_143, Int32.not_lt.mp c_155⟩)] at h3
                exact h3 _ _ _
  show HV l mX12_mayBe (dp + 6) 0 0 0 [some (.ref 82), some (.int x), some (.int y), some (.int z), none, none, none, none, none] [] hSH I J (hRR lt tx) Q
  refine h_aload_n dX12_mayBe_0 rfl ?_
  refine h_iload_n dX12_mayBe_1 rfl ?_
  refine h_cV1 dX12_mayBe_2 k5_179 oVX12_isStation rfl rfl ?_
  refine r_isStation (n := ns) hns (by omega) (fun b1 => ?_) (fun b1 => ?_)
  · refine h_ifeq (tgt := 22) dX12_mayBe_5 rfl (fun c => absurd c (by decide)) (fun _ => ?_)
    refine h_iload_n dX12_mayBe_8 rfl ?_
    refine h_cS1 dX12_mayBe_9 k6_10 oSX12_isSlant rfl ?_
    refine c_X12_isSlant (fun b2 => ?_) (fun b2 => ?_)
    · refine h_ifeq (tgt := 22) dX12_mayBe_12 rfl (fun c => absurd c (by decide)) (fun _ => ?_)
      refine h_iload_n dX12_mayBe_15 rfl ?_
      refine h_cS1 dX12_mayBe_16 k6_13 oSX12_isWhen rfl ?_
      refine r_isWhen (fun w hv hw1 hw2 => ?_) (fun b4 => ?_)
      · have ok0 : (isIx x ns ∧ (-99 ≤ y ∧ y ≤ nI 999) ∧ isWh z) := ⟨b1, b2, w, hv, hw1, hw2⟩
        obtain ⟨s, hs, rfl⟩ := b1
        subst hv
        refine h_ifne (tgt := 24) dX12_mayBe_19 rfl (fun _ => ?_) (fun c => absurd c (by decide))
        refine h_aload_n dX12_mayBe_24 rfl ?_
        refine h_cV0 dX12_mayBe_25 k5_200 oVX12_findLevels rfl rfl ?_
        refine r_findLevels hN hw (fun a c b hLv => ?_)
        refine h_aload_n dX12_mayBe_28 rfl ?_
        refine h_iload_n dX12_mayBe_29 rfl ?_
        refine h_cV1 dX12_mayBe_30 k5_213 oVX12_hasLevel rfl rfl ?_
        refine r_hasLevel (f := dist fa fb sl nl) (by omega) hLv.1 (bf_le 6) (fun b3 => ?_) (fun b3 => ?_)
        · refine h_ifne (tgt := 39) dX12_mayBe_33 rfl (fun _ => ?_) (fun c => absurd c (by decide))
          refine h_iconst dX12_mayBe_39 ci_0 ?_
          refine h_istore dX12_mayBe_40 (Nat.le_of_ble_eq_true rfl) ?_
          refine h_iconst dX12_mayBe_42 ci_0 ?_
          refine h_istore dX12_mayBe_43 (Nat.le_of_ble_eq_true rfl) ?_
          exact Lo s w hs hw1 hw2 b3 (hO ok0 s w rfl rfl hs (by omega) b3) (np + 1) 0 _ (RO_l I a b c) hLv (by omega) (by omega) _ _ _
        · refine h_ifne (tgt := 39) dX12_mayBe_33 rfl (fun c => absurd (by decide) c) (fun _ => ?_)
          refine h_bipush dX12_mayBe_36 cb_m3 ?_
          refine h_ireturn dX12_mayBe_38 rfl ?_
          exact hN3 ok0 s rfl hs b3 _ (RO_l I a b c)
      · refine h_ifne (tgt := 24) dX12_mayBe_19 rfl (fun c => absurd (by decide) c) (fun _ => ?_)
        refine h_iconst dX12_mayBe_22 ci_m1 ?_
        refine h_ireturn dX12_mayBe_23 rfl ?_
        exact hB (fun z => b4 z.2.2)
    · refine h_ifeq (tgt := 22) dX12_mayBe_12 rfl (fun _ => ?_) (fun c => absurd (by decide) c)
      refine h_iconst dX12_mayBe_22 ci_m1 ?_
      refine h_ireturn dX12_mayBe_23 rfl ?_
      exact hB (fun z => b2 z.2.1)
  · refine h_ifeq (tgt := 22) dX12_mayBe_5 rfl (fun _ => ?_) (fun c => absurd (by decide) c)
    refine h_iconst dX12_mayBe_22 ci_m1 ?_
    refine h_ireturn dX12_mayBe_23 rfl ?_
    exact hB (fun z => b1 z.1)
theorem c_behind2 {l : Launch} {dp : Nat} {ns nl np ml nk nw : Nat} {pl fa fb sl pp pm ki fr tg wh bw : Nat → Nat} {rs sn : Nat → Int32} {fl : Nat → Bool} {qw : Nat → Nat → Nat → Nat → Bool} {I : hI} {J : hJ} {lt tx : Option Nat} {x y : Int32} {Q : hQ} (hG : cG I ns nl np ml nk nw pl fa fb sl pp pm ki fr tg wh bw rs sn fl qw) (hB : ¬ (isIx x ns ∧ isIx y np) → Q (some (.int (-1))) hSH I J (hRR lt tx)) (hN3 : (isIx x ns ∧ isIx y np) → ∀ s, x = nI s → s < ns → ¬ dist fa fb sl nl s < 1000000 → ∀ I', CO I I' → Q (some (.int (-3))) hSH I' J (hRR lt tx)) (hO : ∀ s q, x = nI s → y = nI q → s < ns → q < np → dist fa fb sl nl s < 1000000 → ∀ I', CO I I' → Q (some (.int (mkB (fun p => cbl (∃ a b, spG (inS nl fa fb sl fr tg fl p (-9)) (loK nl np ml nw pl fa fb sl pp pm ki fr tg wh bw rs sn qw) (hiK nl np ml nw pl fa fb sl pp pm ki fr tg wh bw rs sn qw) nk = some a ∧ ¬ a.2 < a.1 ∧ spG (inS nl fa fb sl fr tg fl q (-9)) (loK nl np ml nw pl fa fb sl pp pm ki fr tg wh bw rs sn qw) (hiK nl np ml nw pl fa fb sl pp pm ki fr tg wh bw rs sn qw) nk = some b ∧ ¬ b.2 < b.1 ∧ pl s < pp p ∧ pp p < pp q ∧ (b.2 - lvl fa fb sl rs nl s).toInt64 * (nI (aw (pl s) (pp p))).toInt64 < (a.1 - lvl fa fb sl rs nl s).toInt64 * (nI (aw (pl s) (pp q))).toInt64)) np))) hSH I' J (hRR lt tx)) : HC l mX11_behind (dp + 7) 0 0 [.ref 0, .int x, .int y] hSH I J (hRR lt tx) Q := by
  refine HC.of (by decide +kernel) rfl (Nat.le_of_ble_eq_true rfl) ?_
  obtain ⟨⟨hN, hdo, hla, hlv⟩, hw, ⟨hnp, hml, hnk, hpt, hsi, hbt⟩, ⟨hn8, hm2, hn24, hpW, hsW⟩, hL⟩ := id hG
  obtain ⟨hns, hnl, hpl, hlg⟩ := id hN
  obtain ⟨hn6, hl12, hW, hp99, hr99⟩ := id hw
  have Lo : ∀ (s q : Nat) (hs : s < ns) (hq : q < np) (g1 g2 g3 : Nat → Int32) (hal : (∀ r, r < np → spA (spG (inS nl fa fb sl fr tg fl r (-9)) (loK nl np ml nw pl fa fb sl pp pm ki fr tg wh bw rs sn qw) (hiK nl np ml nw pl fa fb sl pp pm ki fr tg wh bw rs sn qw) nk) g1 g2 r ∧ g3 r = spc (spG (inS nl fa fb sl fr tg fl r (-9)) (loK nl np ml nw pl fa fb sl pp pm ki fr tg wh bw rs sn qw) (hiK nl np ml nw pl fa fb sl pp pm ki fr tg wh bw rs sn qw) nk))) (hX : Q (some (.int (mkB (fun p => cbl (∃ a b, spG (inS nl fa fb sl fr tg fl p (-9)) (loK nl np ml nw pl fa fb sl pp pm ki fr tg wh bw rs sn qw) (hiK nl np ml nw pl fa fb sl pp pm ki fr tg wh bw rs sn qw) nk = some a ∧ ¬ a.2 < a.1 ∧ spG (inS nl fa fb sl fr tg fl q (-9)) (loK nl np ml nw pl fa fb sl pp pm ki fr tg wh bw rs sn qw) (hiK nl np ml nw pl fa fb sl pp pm ki fr tg wh bw rs sn qw) nk = some b ∧ ¬ b.2 < b.1 ∧ pl s < pp p ∧ pp p < pp q ∧ (b.2 - lvl fa fb sl rs nl s).toInt64 * (nI (aw (pl s) (pp p))).toInt64 < (a.1 - lvl fa fb sl rs nl s).toInt64 * (nI (aw (pl s) (pp q))).toInt64)) np))) hSH (upA (upA (upA I 25 g1) 26 g2) 27 g3) J (hRR lt tx)) (m p : Nat), np - p < m → p ≤ np → HV l mX11_behind (dp + 7) 0 0 45 [some (.ref 0), some (.int (nI s)), some (.int (nI q)), some (.int (mkB (fun p => cbl (∃ a b, spG (inS nl fa fb sl fr tg fl p (-9)) (loK nl np ml nw pl fa fb sl pp pm ki fr tg wh bw rs sn qw) (hiK nl np ml nw pl fa fb sl pp pm ki fr tg wh bw rs sn qw) nk = some a ∧ ¬ a.2 < a.1 ∧ spG (inS nl fa fb sl fr tg fl q (-9)) (loK nl np ml nw pl fa fb sl pp pm ki fr tg wh bw rs sn qw) (hiK nl np ml nw pl fa fb sl pp pm ki fr tg wh bw rs sn qw) nk = some b ∧ ¬ b.2 < b.1 ∧ pl s < pp p ∧ pp p < pp q ∧ (b.2 - lvl fa fb sl rs nl s).toInt64 * (nI (aw (pl s) (pp p))).toInt64 < (a.1 - lvl fa fb sl rs nl s).toInt64 * (nI (aw (pl s) (pp q))).toInt64)) p)), some (.int (nI p))] [] hSH (upA (upA (upA I 25 g1) 26 g2) 27 g3) J (hRR lt tx) Q := by
    intro s q hs hq g1 g2 g3 hal hX m
    induction m with
    | zero => intro p h1 h2; omega
    | succ m ih =>
      intro p h1 h2
      refine h_iload dX11_behind_45 rfl ?_
      refine h_aload_n dX11_behind_47 rfl ?_
      refine h_getR dX11_behind_48 f_X11_10_9 rfl rfl ?_
      refine h_getI dX11_behind_51 f_X11_166_8 rfl hnp ?_
      refine h_icmpge (tgt := 84) dX11_behind_54 rfl (fun c_54 => ?_) (fun c_54 => ?_)
      · rw [nI_leI (by omega) (by omega)] at c_54
        refine h_iload_n dX11_behind_84 rfl ?_
        refine h_ireturn dX11_behind_85 rfl ?_
        have ek : np = p := by omega
        subst ek
        exact hX
      · rw [nI_leI (by omega) (by omega)] at c_54
        refine h_aload_n dX11_behind_57 rfl ?_
        refine h_getR dX11_behind_58 f_X11_10_9 rfl rfl ?_
        refine h_iload_n dX11_behind_61 rfl ?_
        refine h_iload dX11_behind_62 rfl ?_
        refine h_iload_n dX11_behind_64 rfl ?_
        refine h_cV3 dX11_behind_65 k3_158 oVX10_hides rfl rfl ?_
        refine c_hides (I := (upA (upA (upA I 25 g1) 26 g2) 27 g3)) hG hs (by omega) hq hal (fun b2 => ?_) (fun b2 => ?_)
        · refine h_ifeq (tgt := 78) dX11_behind_68 rfl (fun c => absurd c (by decide)) (fun _ => ?_)
          refine h_iload_n dX11_behind_71 rfl ?_
          refine h_iconst dX11_behind_72 ci_1 ?_
          refine h_iload dX11_behind_73 rfl ?_
          refine h_ishl dX11_behind_75 ?_
          refine h_ior dX11_behind_76 ?_
          refine h_istore_n dX11_behind_77 (Nat.le_of_ble_eq_true rfl) ?_
          refine h_iinc (v := nI (p + 1)) dX11_behind_78 rfl (nI_1 _) (Nat.le_of_ble_eq_true rfl) ?_
          refine h_goto (tgt := 45) dX11_behind_81 rfl ?_
          have h3 := ih (p + 1) (by omega) (by omega)
          rw [mkB_t (P := (fun p => cbl (∃ a b, spG (inS nl fa fb sl fr tg fl p (-9)) (loK nl np ml nw pl fa fb sl pp pm ki fr tg wh bw rs sn qw) (hiK nl np ml nw pl fa fb sl pp pm ki fr tg wh bw rs sn qw) nk = some a ∧ ¬ a.2 < a.1 ∧ spG (inS nl fa fb sl fr tg fl q (-9)) (loK nl np ml nw pl fa fb sl pp pm ki fr tg wh bw rs sn qw) (hiK nl np ml nw pl fa fb sl pp pm ki fr tg wh bw rs sn qw) nk = some b ∧ ¬ b.2 < b.1 ∧ pl s < pp p ∧ pp p < pp q ∧ (b.2 - lvl fa fb sl rs nl s).toInt64 * (nI (aw (pl s) (pp p))).toInt64 < (a.1 - lvl fa fb sl rs nl s).toInt64 * (nI (aw (pl s) (pp q))).toInt64))) (cbl_t b2)] at h3
          exact h3
        · refine h_ifeq (tgt := 78) dX11_behind_68 rfl (fun _ => ?_) (fun c => absurd (by decide) c)
          refine h_iinc (v := nI (p + 1)) dX11_behind_78 rfl (nI_1 _) (Nat.le_of_ble_eq_true rfl) ?_
          refine h_goto (tgt := 45) dX11_behind_81 rfl ?_
          have h3 := ih (p + 1) (by omega) (by omega)
          rw [mkB_f (P := (fun p => cbl (∃ a b, spG (inS nl fa fb sl fr tg fl p (-9)) (loK nl np ml nw pl fa fb sl pp pm ki fr tg wh bw rs sn qw) (hiK nl np ml nw pl fa fb sl pp pm ki fr tg wh bw rs sn qw) nk = some a ∧ ¬ a.2 < a.1 ∧ spG (inS nl fa fb sl fr tg fl q (-9)) (loK nl np ml nw pl fa fb sl pp pm ki fr tg wh bw rs sn qw) (hiK nl np ml nw pl fa fb sl pp pm ki fr tg wh bw rs sn qw) nk = some b ∧ ¬ b.2 < b.1 ∧ pl s < pp p ∧ pp p < pp q ∧ (b.2 - lvl fa fb sl rs nl s).toInt64 * (nI (aw (pl s) (pp p))).toInt64 < (a.1 - lvl fa fb sl rs nl s).toInt64 * (nI (aw (pl s) (pp q))).toInt64))) (cbl_f b2)] at h3
          exact h3
  show HV l mX11_behind (dp + 7) 0 0 0 [some (.ref 0), some (.int x), some (.int y), none, none] [] hSH I J (hRR lt tx) Q
  refine h_aload_n dX11_behind_0 rfl ?_
  refine h_iload_n dX11_behind_1 rfl ?_
  refine h_cV1 dX11_behind_2 k2_188 oVX11_isStation rfl rfl ?_
  refine c_isStation (n := ns) hns (by omega) (fun b1 => ?_) (fun b1 => ?_)
  · refine h_ifeq (tgt := 16) dX11_behind_5 rfl (fun c => absurd c (by decide)) (fun _ => ?_)
    refine h_aload_n dX11_behind_8 rfl ?_
    refine h_iload_n dX11_behind_9 rfl ?_
    refine h_cV1 dX11_behind_10 k3_11 oVX11_isPoint rfl rfl ?_
    refine c_isPoint (n := np) hnp (by omega) (fun b2 => ?_) (fun b2 => ?_)
    · have ok0 : (isIx x ns ∧ isIx y np) := ⟨b1, b2⟩
      obtain ⟨s, hs, rfl⟩ := b1
      obtain ⟨q, hq, rfl⟩ := b2
      refine h_ifne (tgt := 18) dX11_behind_13 rfl (fun _ => ?_) (fun c => absurd c (by decide))
      refine h_aload_n dX11_behind_18 rfl ?_
      refine h_getR dX11_behind_19 f_X11_20_9 rfl rfl ?_
      refine h_iload_n dX11_behind_22 rfl ?_
      refine h_cV1 dX11_behind_23 k2_223 oVX5_hasLevel rfl rfl ?_
      refine c_hasLevelN (f := dist fa fb sl nl) hns hn6 hdo hs (fun b3 => ?_) (fun b3 => ?_)
      · refine h_ifne (tgt := 32) dX11_behind_26 rfl (fun _ => ?_) (fun c => absurd c (by decide))
        refine h_aload_n dX11_behind_32 rfl ?_
        refine h_getR dX11_behind_33 f_X11_10_9 rfl rfl ?_
        refine h_cV0 dX11_behind_36 k3_154 oVX10_measureAll rfl rfl ?_
        refine c_measureAll hG (fun g1 g2 g3 hal => ?_)
        refine h_pop dX11_behind_39 rfl ?_
        refine h_iconst dX11_behind_40 ci_0 ?_
        refine h_istore_n dX11_behind_41 (Nat.le_of_ble_eq_true rfl) ?_
        refine h_iconst dX11_behind_42 ci_0 ?_
        refine h_istore dX11_behind_43 (Nat.le_of_ble_eq_true rfl) ?_
        exact Lo s q hs hq g1 g2 g3 hal (hO s q rfl rfl hs hq b3 _ (CO_3 I g1 g2 g3)) (np + 1) 0 (by omega) (by omega)
      · refine h_ifne (tgt := 32) dX11_behind_26 rfl (fun c => absurd (by decide) c) (fun _ => ?_)
        refine h_bipush dX11_behind_29 cb_m3 ?_
        refine h_ireturn dX11_behind_31 rfl ?_
        exact hN3 ok0 s rfl hs b3 _ (CO_id I)
    · refine h_ifne (tgt := 18) dX11_behind_13 rfl (fun c => absurd (by decide) c) (fun _ => ?_)
      refine h_iconst dX11_behind_16 ci_m1 ?_
      refine h_ireturn dX11_behind_17 rfl ?_
      exact hB (fun z => b2 z.2)
  · refine h_ifeq (tgt := 16) dX11_behind_5 rfl (fun _ => ?_) (fun c => absurd (by decide) c)
    refine h_iconst dX11_behind_16 ci_m1 ?_
    refine h_ireturn dX11_behind_17 rfl ?_
    exact hB (fun z => b1 z.1)
theorem r_behind2 {l : Launch} {dp : Nat} {ns nl np ml nk nw : Nat} {pl fa fb sl pp pm ki fr tg wh bw : Nat → Nat} {rs sn : Nat → Int32} {fl : Nat → Bool} {qw : Nat → Nat → Nat → Nat → Bool} {I : hI} {J : hJ} {lt tx : Option Nat} {x y : Int32} {Q : hQ} (hG : rG I ns nl np ml nk nw pl fa fb sl pp pm ki fr tg wh bw rs sn fl qw) (hB : ¬ (isIx x ns ∧ isIx y np) → Q (some (.int (-1))) hSH I J (hRR lt tx)) (hN3 : (isIx x ns ∧ isIx y np) → ∀ s, x = nI s → s < ns → ¬ dist fa fb sl nl s < 1000000 → ∀ I', RO I I' → Q (some (.int (-3))) hSH I' J (hRR lt tx)) (hO : ∀ s q, x = nI s → y = nI q → s < ns → q < np → dist fa fb sl nl s < 1000000 → ∀ I', RO I I' → Q (some (.int (mkB (fun p => cbl (∃ a b, spG (inS nl fa fb sl fr tg fl p (-9)) (loK nl np ml nw pl fa fb sl pp pm ki fr tg wh bw rs sn qw) (hiK nl np ml nw pl fa fb sl pp pm ki fr tg wh bw rs sn qw) nk = some a ∧ ¬ a.2 < a.1 ∧ spG (inS nl fa fb sl fr tg fl q (-9)) (loK nl np ml nw pl fa fb sl pp pm ki fr tg wh bw rs sn qw) (hiK nl np ml nw pl fa fb sl pp pm ki fr tg wh bw rs sn qw) nk = some b ∧ ¬ b.2 < b.1 ∧ pl s < pp p ∧ pp p < pp q ∧ (b.2 - lvl fa fb sl rs nl s).toInt64 * (nI (aw (pl s) (pp p))).toInt64 < (a.1 - lvl fa fb sl rs nl s).toInt64 * (nI (aw (pl s) (pp q))).toInt64)) np))) hSH I' J (hRR lt tx)) : HC l mX12_behind (dp + 7) 0 0 [.ref 82, .int x, .int y] hSH I J (hRR lt tx) Q := by
  refine HC.of (by decide +kernel) rfl (Nat.le_of_ble_eq_true rfl) ?_
  obtain ⟨hN, hw, ⟨hnp, hml, hnk, hpt, hsi⟩, ⟨hn8, hm2, hn24, hpW, hsW⟩, hL⟩ := id hG
  obtain ⟨hns, hnl, hpl, hlg⟩ := id hN
  obtain ⟨hn6, hl12, hW, hp99, hr99⟩ := id hw
  have Lo : ∀ (s q : Nat) (hs : s < ns) (hq : q < np) (hf : dist fa fb sl nl s < 1000000) (b0 : Int32 × Int32) (hb1 : spG (inS nl fa fb sl fr tg fl q (-9)) (loK nl np ml nw pl fa fb sl pp pm ki fr tg wh bw rs sn qw) (hiK nl np ml nw pl fa fb sl pp pm ki fr tg wh bw rs sn qw) nk = some b0) (hb2 : ¬ b0.2 < b0.1) (hX : ∀ I', RO I I' → Q (some (.int (mkB (fun p => cbl (∃ a b, spG (inS nl fa fb sl fr tg fl p (-9)) (loK nl np ml nw pl fa fb sl pp pm ki fr tg wh bw rs sn qw) (hiK nl np ml nw pl fa fb sl pp pm ki fr tg wh bw rs sn qw) nk = some a ∧ ¬ a.2 < a.1 ∧ spG (inS nl fa fb sl fr tg fl q (-9)) (loK nl np ml nw pl fa fb sl pp pm ki fr tg wh bw rs sn qw) (hiK nl np ml nw pl fa fb sl pp pm ki fr tg wh bw rs sn qw) nk = some b ∧ ¬ b.2 < b.1 ∧ pl s < pp p ∧ pp p < pp q ∧ (b.2 - lvl fa fb sl rs nl s).toInt64 * (nI (aw (pl s) (pp p))).toInt64 < (a.1 - lvl fa fb sl rs nl s).toInt64 * (nI (aw (pl s) (pp q))).toInt64)) np))) hSH I' J (hRR lt tx)) (m p : Nat) (I2 : hI), RO I I2 → rL I2 ns nl fa fb sl rs → np - p < m → p ≤ np → ∀ z7 z8, HV l mX12_behind (dp + 7) 0 0 79 [some (.ref 82), some (.int (nI s)), some (.int (nI q)), some (.long ((b0.2 - lvl fa fb sl rs nl s).toInt64)), none, some (.int (mkB (fun p => cbl (∃ a b, spG (inS nl fa fb sl fr tg fl p (-9)) (loK nl np ml nw pl fa fb sl pp pm ki fr tg wh bw rs sn qw) (hiK nl np ml nw pl fa fb sl pp pm ki fr tg wh bw rs sn qw) nk = some a ∧ ¬ a.2 < a.1 ∧ spG (inS nl fa fb sl fr tg fl q (-9)) (loK nl np ml nw pl fa fb sl pp pm ki fr tg wh bw rs sn qw) (hiK nl np ml nw pl fa fb sl pp pm ki fr tg wh bw rs sn qw) nk = some b ∧ ¬ b.2 < b.1 ∧ pl s < pp p ∧ pp p < pp q ∧ (b.2 - lvl fa fb sl rs nl s).toInt64 * (nI (aw (pl s) (pp p))).toInt64 < (a.1 - lvl fa fb sl rs nl s).toInt64 * (nI (aw (pl s) (pp q))).toInt64)) p)), some (.int (nI p)), z7, z8] [] hSH I2 J (hRR lt tx) Q := by
    intro s q hs hq hf b0 hb1 hb2 hX m
    induction m with
    | zero => intro p I2 hC hLv h1 h2 z7 z8; omega
    | succ m ih =>
      intro p I2 hC hLv h1 h2 z7 z8
      obtain ⟨a, b, c, lo, hi, f1, f2, rfl⟩ := hC
      have q1 := hp99 s hs
      have w3 := hpW q hq
      have w2 := fun h => hpW p h
      refine h_iload dX12_behind_79 rfl ?_
      refine h_aload_n dX12_behind_81 rfl ?_
      refine h_getI dX12_behind_82 f_X12_110_10 rfl hnp ?_
      refine h_icmpge (tgt := 192) dX12_behind_85 rfl (fun c_85 => ?_) (fun c_85 => ?_)
      · rw [nI_leI (by omega) (by omega)] at c_85
        refine h_iload dX12_behind_192 rfl ?_
        refine h_ireturn dX12_behind_194 rfl ?_
        have ek : np = p := by omega
        subst ek
        exact hX _ (RO_m I a b c lo hi f1 f2)
      · rw [nI_leI (by omega) (by omega)] at c_85
        have w4 := w2 (by omega)
        refine h_aload_n dX12_behind_88 rfl ?_
        refine h_getR dX12_behind_89 f_X12_16_10 rfl rfl ?_
        refine h_iconst dX12_behind_92 ci_2 ?_
        refine h_iload dX12_behind_93 rfl ?_
        refine h_imulN dX12_behind_95 ?_
        refine h_ialdN (j := 2 * p) dX12_behind_96 rfl rfl (by omega) rfl (hpt p (by omega)).1 ?_
        refine h_aload_n dX12_behind_97 rfl ?_
        refine h_getR dX12_behind_98 f_X12_7_10 rfl rfl ?_
        refine h_iload_n dX12_behind_101 rfl ?_
        refine h_ialdN (j := s) dX12_behind_102 rfl rfl (by omega) rfl (hpl _ (by omega)) ?_
        refine h_icmple (tgt := 186) dX12_behind_103 rfl (fun c_103 => ?_) (fun c_103 => ?_)
        · rw [nI_leI (by omega) (by omega)] at c_103
          refine h_iinc (v := nI (p + 1)) dX12_behind_186 rfl (nI_1 _) (Nat.le_of_ble_eq_true rfl) ?_
          refine h_goto (tgt := 79) dX12_behind_189 rfl ?_
          have h3 := ih (p + 1) _ (RO_m I a b c lo hi f1 f2) hLv (by omega) (by omega)
          rw [mkB_f (P := (fun p => cbl (∃ a b, spG (inS nl fa fb sl fr tg fl p (-9)) (loK nl np ml nw pl fa fb sl pp pm ki fr tg wh bw rs sn qw) (hiK nl np ml nw pl fa fb sl pp pm ki fr tg wh bw rs sn qw) nk = some a ∧ ¬ a.2 < a.1 ∧ spG (inS nl fa fb sl fr tg fl q (-9)) (loK nl np ml nw pl fa fb sl pp pm ki fr tg wh bw rs sn qw) (hiK nl np ml nw pl fa fb sl pp pm ki fr tg wh bw rs sn qw) nk = some b ∧ ¬ b.2 < b.1 ∧ pl s < pp p ∧ pp p < pp q ∧ (b.2 - lvl fa fb sl rs nl s).toInt64 * (nI (aw (pl s) (pp p))).toInt64 < (a.1 - lvl fa fb sl rs nl s).toInt64 * (nI (aw (pl s) (pp q))).toInt64))) (cbl_f (fun z => by
            obtain ⟨a9, b9, e1, e2, e3, e4, e5, e6, e7⟩ := z
            omega))] at h3
          exact h3 _ _
        · rw [nI_leI (by omega) (by omega)] at c_103
          refine h_aload_n dX12_behind_106 rfl ?_
          refine h_getR dX12_behind_107 f_X12_16_10 rfl rfl ?_
          refine h_iconst dX12_behind_110 ci_2 ?_
          refine h_iload dX12_behind_111 rfl ?_
          refine h_imulN dX12_behind_113 ?_
          refine h_ialdN (j := 2 * p) dX12_behind_114 rfl rfl (by omega) rfl (hpt p (by omega)).1 ?_
          refine h_aload_n dX12_behind_115 rfl ?_
          refine h_getR dX12_behind_116 f_X12_16_10 rfl rfl ?_
          refine h_iconst dX12_behind_119 ci_2 ?_
          refine h_iload_n dX12_behind_120 rfl ?_
          refine h_imulN dX12_behind_121 ?_
          refine h_ialdN (j := 2 * q) dX12_behind_122 rfl rfl (by omega) rfl (hpt q (by omega)).1 ?_
          refine h_icmpge (tgt := 186) dX12_behind_123 rfl (fun c_123 => ?_) (fun c_123 => ?_)
          · rw [nI_leI (by omega) (by omega)] at c_123
            refine h_iinc (v := nI (p + 1)) dX12_behind_186 rfl (nI_1 _) (Nat.le_of_ble_eq_true rfl) ?_
            refine h_goto (tgt := 79) dX12_behind_189 rfl ?_
            have h3 := ih (p + 1) _ (RO_m I a b c lo hi f1 f2) hLv (by omega) (by omega)
            rw [mkB_f (P := (fun p => cbl (∃ a b, spG (inS nl fa fb sl fr tg fl p (-9)) (loK nl np ml nw pl fa fb sl pp pm ki fr tg wh bw rs sn qw) (hiK nl np ml nw pl fa fb sl pp pm ki fr tg wh bw rs sn qw) nk = some a ∧ ¬ a.2 < a.1 ∧ spG (inS nl fa fb sl fr tg fl q (-9)) (loK nl np ml nw pl fa fb sl pp pm ki fr tg wh bw rs sn qw) (hiK nl np ml nw pl fa fb sl pp pm ki fr tg wh bw rs sn qw) nk = some b ∧ ¬ b.2 < b.1 ∧ pl s < pp p ∧ pp p < pp q ∧ (b.2 - lvl fa fb sl rs nl s).toInt64 * (nI (aw (pl s) (pp p))).toInt64 < (a.1 - lvl fa fb sl rs nl s).toInt64 * (nI (aw (pl s) (pp q))).toInt64))) (cbl_f (fun z => by
              obtain ⟨a9, b9, e1, e2, e3, e4, e5, e6, e7⟩ := z
              omega))] at h3
            exact h3 _ _
          · rw [nI_leI (by omega) (by omega)] at c_123
            refine h_aload_n dX12_behind_126 rfl ?_
            refine h_iload dX12_behind_127 rfl ?_
            refine h_cV1 dX12_behind_129 k6_74 oVX12_noSpan rfl rfl ?_
            refine r_noSpan (I := (rM I a b c lo hi f1 f2)) (p := p) hG (by omega) (fun a2 b2 c2 lo2 hi2 g1 g2 hLv2 y2 => ?_)
            refine h_ifne (tgt := 186) dX12_behind_132 rfl (fun c_132 => ?_) (fun c_132 => ?_)
            · refine h_iinc (v := nI (p + 1)) dX12_behind_186 rfl (nI_1 _) (Nat.le_of_ble_eq_true rfl) ?_
              refine h_goto (tgt := 79) dX12_behind_189 rfl ?_
              have h3 := ih (p + 1) _ (RO_tr (RO_m I a b c lo hi f1 f2) (RO_m _ a2 b2 c2 lo2 hi2 g1 g2)) hLv2 (by omega) (by omega)
              rw [mkB_f (P := (fun p => cbl (∃ a b, spG (inS nl fa fb sl fr tg fl p (-9)) (loK nl np ml nw pl fa fb sl pp pm ki fr tg wh bw rs sn qw) (hiK nl np ml nw pl fa fb sl pp pm ki fr tg wh bw rs sn qw) nk = some a ∧ ¬ a.2 < a.1 ∧ spG (inS nl fa fb sl fr tg fl q (-9)) (loK nl np ml nw pl fa fb sl pp pm ki fr tg wh bw rs sn qw) (hiK nl np ml nw pl fa fb sl pp pm ki fr tg wh bw rs sn qw) nk = some b ∧ ¬ b.2 < b.1 ∧ pl s < pp p ∧ pp p < pp q ∧ (b.2 - lvl fa fb sl rs nl s).toInt64 * (nI (aw (pl s) (pp p))).toInt64 < (a.1 - lvl fa fb sl rs nl s).toInt64 * (nI (aw (pl s) (pp q))).toInt64))) (cbl_f (fun z => by
                obtain ⟨a9, b9, e1, e2, e3, e4, e5, e6, e7⟩ := z
                exact c_132 (spc_is e1 e2)))] at h3
              exact h3 _ _
            · obtain ⟨a0, hsn, hqq⟩ := spE_ok c_132
              rw [hsn] at y2
              refine h_aload_n dX12_behind_135 rfl ?_
              refine h_getI dX12_behind_136 f_X12_200_10 rfl (show _ = a0.1 from y2.1) ?_
              refine h_aload_n dX12_behind_139 rfl ?_
              refine h_getR dX12_behind_140 f_X12_37_10 rfl rfl ?_
              refine h_iload_n dX12_behind_143 rfl ?_
              refine h_ialdN (j := s) dX12_behind_144 rfl rfl (by omega) rfl (hLv2.2.1 _ hs hf) ?_
              refine h_isub dX12_behind_145 ?_
              refine h_i2l dX12_behind_146 ?_
              refine h_lstore dX12_behind_147 (Nat.le_of_ble_eq_true rfl) ?_
              refine h_iload dX12_behind_149 rfl ?_
              refine h_lload dX12_behind_151 rfl ?_
              refine h_aload_n dX12_behind_153 rfl ?_
              refine h_iload_n dX12_behind_154 rfl ?_
              refine h_iload_n dX12_behind_155 rfl ?_
              refine h_cV2 dX12_behind_156 k5_196 oVX12_awayOf rfl rfl ?_
              refine r_awayOf (I := (rM (rM I a b c lo hi f1 f2) a2 b2 c2 lo2 hi2 g1 g2)) hG hs (by omega) ?_
              refine h_i2l dX12_behind_159 ?_
              refine h_lmul dX12_behind_160 ?_
              refine h_lload_n dX12_behind_161 rfl ?_
              refine h_aload_n dX12_behind_162 rfl ?_
              refine h_iload_n dX12_behind_163 rfl ?_
              refine h_iload dX12_behind_164 rfl ?_
              refine h_cV2 dX12_behind_166 k5_196 oVX12_awayOf rfl rfl ?_
              refine r_awayOf (I := (rM (rM I a b c lo hi f1 f2) a2 b2 c2 lo2 hi2 g1 g2)) hG hs (by omega) ?_
              refine h_i2l dX12_behind_169 ?_
              refine h_lmul dX12_behind_170 ?_
              refine h_lcmp dX12_behind_171 ?_
              refine h_ifle (tgt := 182) dX12_behind_172 rfl (fun c_172 => ?_) (fun c_172 => ?_)
              · refine h_iconst dX12_behind_182 ci_0 ?_
                refine h_ior dX12_behind_183 ?_
                refine h_istore dX12_behind_184 (Nat.le_of_ble_eq_true rfl) ?_
                refine h_iinc (v := nI (p + 1)) dX12_behind_186 rfl (nI_1 _) (Nat.le_of_ble_eq_true rfl) ?_
                refine h_goto (tgt := 79) dX12_behind_189 rfl ?_
                have h3 := ih (p + 1) _ (RO_tr (RO_m I a b c lo hi f1 f2) (RO_m _ a2 b2 c2 lo2 hi2 g1 g2)) hLv2 (by omega) (by omega)
                rw [mkB_f (P := (fun p => cbl (∃ a b, spG (inS nl fa fb sl fr tg fl p (-9)) (loK nl np ml nw pl fa fb sl pp pm ki fr tg wh bw rs sn qw) (hiK nl np ml nw pl fa fb sl pp pm ki fr tg wh bw rs sn qw) nk = some a ∧ ¬ a.2 < a.1 ∧ spG (inS nl fa fb sl fr tg fl q (-9)) (loK nl np ml nw pl fa fb sl pp pm ki fr tg wh bw rs sn qw) (hiK nl np ml nw pl fa fb sl pp pm ki fr tg wh bw rs sn qw) nk = some b ∧ ¬ b.2 < b.1 ∧ pl s < pp p ∧ pp p < pp q ∧ (b.2 - lvl fa fb sl rs nl s).toInt64 * (nI (aw (pl s) (pp p))).toInt64 < (a.1 - lvl fa fb sl rs nl s).toInt64 * (nI (aw (pl s) (pp q))).toInt64))) (cbl_f (fun z => by
                  obtain ⟨a9, b9, e1, e2, e3, e4, e5, e6, e7⟩ := z
                  rw [hsn] at e1
                  cases e1
                  rw [hb1] at e3
                  cases e3
                  exact (lg_le _ _).mp c_172 e7))] at h3
                rw [show nI 0 = (0 : Int32) by decide, Int32.or_zero]
                exact h3 _ _
              · refine h_iconst dX12_behind_175 ci_1 ?_
                refine h_iload dX12_behind_176 rfl ?_
                refine h_ishl dX12_behind_178 ?_
                refine h_goto (tgt := 183) dX12_behind_179 rfl ?_
                refine h_ior dX12_behind_183 ?_
                refine h_istore dX12_behind_184 (Nat.le_of_ble_eq_true rfl) ?_
                refine h_iinc (v := nI (p + 1)) dX12_behind_186 rfl (nI_1 _) (Nat.le_of_ble_eq_true rfl) ?_
                refine h_goto (tgt := 79) dX12_behind_189 rfl ?_
                have h3 := ih (p + 1) _ (RO_tr (RO_m I a b c lo hi f1 f2) (RO_m _ a2 b2 c2 lo2 hi2 g1 g2)) hLv2 (by omega) (by omega)
                rw [mkB_t (P := (fun p => cbl (∃ a b, spG (inS nl fa fb sl fr tg fl p (-9)) (loK nl np ml nw pl fa fb sl pp pm ki fr tg wh bw rs sn qw) (hiK nl np ml nw pl fa fb sl pp pm ki fr tg wh bw rs sn qw) nk = some a ∧ ¬ a.2 < a.1 ∧ spG (inS nl fa fb sl fr tg fl q (-9)) (loK nl np ml nw pl fa fb sl pp pm ki fr tg wh bw rs sn qw) (hiK nl np ml nw pl fa fb sl pp pm ki fr tg wh bw rs sn qw) nk = some b ∧ ¬ b.2 < b.1 ∧ pl s < pp p ∧ pp p < pp q ∧ (b.2 - lvl fa fb sl rs nl s).toInt64 * (nI (aw (pl s) (pp p))).toInt64 < (a.1 - lvl fa fb sl rs nl s).toInt64 * (nI (aw (pl s) (pp q))).toInt64))) (cbl_t ⟨a0, b0, hsn, hqq, hb1, hb2, by omega, by omega, Classical.not_not.mp (fun z => c_172 ((lg_le _ _).mpr z))⟩)] at h3
                exact h3 _ _
  show HV l mX12_behind (dp + 7) 0 0 0 [some (.ref 82), some (.int x), some (.int y), none, none, none, none, none, none] [] hSH I J (hRR lt tx) Q
  refine h_aload_n dX12_behind_0 rfl ?_
  refine h_iload_n dX12_behind_1 rfl ?_
  refine h_cV1 dX12_behind_2 k5_179 oVX12_isStation rfl rfl ?_
  refine r_isStation (n := ns) hns (by omega) (fun b1 => ?_) (fun b1 => ?_)
  · refine h_ifeq (tgt := 16) dX12_behind_5 rfl (fun c => absurd c (by decide)) (fun _ => ?_)
    refine h_aload_n dX12_behind_8 rfl ?_
    refine h_iload_n dX12_behind_9 rfl ?_
    refine h_cV1 dX12_behind_10 k5_238 oVX12_isPoint rfl rfl ?_
    refine r_isPoint (n := np) hnp (by omega) (fun b2 => ?_) (fun b2 => ?_)
    · have ok0 : (isIx x ns ∧ isIx y np) := ⟨b1, b2⟩
      obtain ⟨s, hs, rfl⟩ := b1
      obtain ⟨q, hq, rfl⟩ := b2
      have q1 := hp99 s hs
      have w3 := hpW q hq
      refine h_ifne (tgt := 18) dX12_behind_13 rfl (fun _ => ?_) (fun c => absurd c (by decide))
      refine h_aload_n dX12_behind_18 rfl ?_
      refine h_cV0 dX12_behind_19 k5_200 oVX12_findLevels rfl rfl ?_
      refine r_findLevels hN hw (fun a c b hLv => ?_)
      refine h_aload_n dX12_behind_22 rfl ?_
      refine h_iload_n dX12_behind_23 rfl ?_
      refine h_cV1 dX12_behind_24 k5_213 oVX12_hasLevel rfl rfl ?_
      refine r_hasLevel (f := dist fa fb sl nl) (by omega) hLv.1 (bf_le 6) (fun b3 => ?_) (fun b3 => ?_)
      · refine h_ifne (tgt := 33) dX12_behind_27 rfl (fun _ => ?_) (fun c => absurd c (by decide))
        refine h_aload_n dX12_behind_33 rfl ?_
        refine h_iload_n dX12_behind_34 rfl ?_
        refine h_cV1 dX12_behind_35 k6_74 oVX12_noSpan rfl rfl ?_
        refine r_noSpan (I := upA (upA (upA I 90 a) 92 b) 91 c) (p := q) hG hq (fun a2 b2 c2 lo2 hi2 g1 g2 hLv2 y2 => ?_)
        refine h_ifne (tgt := 58) dX12_behind_38 rfl (fun c_38 => ?_) (fun c_38 => ?_)
        · refine h_iconst dX12_behind_58 ci_0 ?_
          refine h_ireturn dX12_behind_59 rfl ?_
          have hQ := hO s q rfl rfl hs hq b3 _ (RO_tr (RO_l I a b c) (RO_m _ a2 b2 c2 lo2 hi2 g1 g2))
          rw [mkB_0 np (fun p hp => cbl_f (fun z => by
            obtain ⟨a9, b9, e1, e2, e3, e4, e5, e6, e7⟩ := z
            exact c_38 (spc_is e3 e4)))] at hQ
          exact hQ
        · obtain ⟨b0, hb1, hb2⟩ := spE_ok c_38
          rw [hb1] at y2
          refine h_aload_n dX12_behind_41 rfl ?_
          refine h_getR dX12_behind_42 f_X12_16_10 rfl rfl ?_
          refine h_iconst dX12_behind_45 ci_2 ?_
          refine h_iload_n dX12_behind_46 rfl ?_
          refine h_imulN dX12_behind_47 ?_
          refine h_ialdN (j := 2 * q) dX12_behind_48 rfl rfl (by omega) rfl (hpt q (by omega)).1 ?_
          refine h_aload_n dX12_behind_49 rfl ?_
          refine h_getR dX12_behind_50 f_X12_7_10 rfl rfl ?_
          refine h_iload_n dX12_behind_53 rfl ?_
          refine h_ialdN (j := s) dX12_behind_54 rfl rfl (by omega) rfl (hpl _ (by omega)) ?_
          refine h_icmpgt (tgt := 60) dX12_behind_55 rfl (fun c_55 => ?_) (fun c_55 => ?_)
          · rw [nI_ltI (by omega) (by omega)] at c_55
            refine h_aload_n dX12_behind_60 rfl ?_
            refine h_getI dX12_behind_61 f_X12_203_10 rfl (show _ = b0.2 from y2.2) ?_
            refine h_aload_n dX12_behind_64 rfl ?_
            refine h_getR dX12_behind_65 f_X12_37_10 rfl rfl ?_
            refine h_iload_n dX12_behind_68 rfl ?_
            refine h_ialdN (j := s) dX12_behind_69 rfl rfl (by omega) rfl (hLv2.2.1 _ hs b3) ?_
            refine h_isub dX12_behind_70 ?_
            refine h_i2l dX12_behind_71 ?_
            refine h_lstore_n dX12_behind_72 (Nat.le_of_ble_eq_true rfl) ?_
            refine h_iconst dX12_behind_73 ci_0 ?_
            refine h_istore dX12_behind_74 (Nat.le_of_ble_eq_true rfl) ?_
            refine h_iconst dX12_behind_76 ci_0 ?_
            refine h_istore dX12_behind_77 (Nat.le_of_ble_eq_true rfl) ?_
            exact Lo s q hs hq b3 b0 hb1 hb2 (hO s q rfl rfl hs hq b3) (np + 1) 0 _ (RO_tr (RO_l I a b c) (RO_m _ a2 b2 c2 lo2 hi2 g1 g2)) hLv2 (by omega) (by omega) _ _
          · rw [nI_ltI (by omega) (by omega)] at c_55
            refine h_iconst dX12_behind_58 ci_0 ?_
            refine h_ireturn dX12_behind_59 rfl ?_
            have hQ := hO s q rfl rfl hs hq b3 _ (RO_tr (RO_l I a b c) (RO_m _ a2 b2 c2 lo2 hi2 g1 g2))
            rw [mkB_0 np (fun p hp => cbl_f (fun z => by
              obtain ⟨a9, b9, e1, e2, e3, e4, e5, e6, e7⟩ := z
              omega))] at hQ
            exact hQ
      · refine h_ifne (tgt := 33) dX12_behind_27 rfl (fun c => absurd (by decide) c) (fun _ => ?_)
        refine h_bipush dX12_behind_30 cb_m3 ?_
        refine h_ireturn dX12_behind_32 rfl ?_
        exact hN3 ok0 s rfl hs b3 _ (RO_l I a b c)
    · refine h_ifne (tgt := 18) dX12_behind_13 rfl (fun c => absurd (by decide) c) (fun _ => ?_)
      refine h_iconst dX12_behind_16 ci_m1 ?_
      refine h_ireturn dX12_behind_17 rfl ?_
      exact hB (fun z => b2 z.2)
  · refine h_ifeq (tgt := 16) dX12_behind_5 rfl (fun _ => ?_) (fun c => absurd (by decide) c)
    refine h_iconst dX12_behind_16 ci_m1 ?_
    refine h_ireturn dX12_behind_17 rfl ?_
    exact hB (fun z => b1 z.1)
theorem w01 {w : Int32} (h : w = nI 0 ∨ w = nI 1) : nI 0 ≤ w ∧ w ≤ nI 1 := by
  rcases h with rfl | rfl <;> decide
theorem c_highest2 {l : Launch} {dp : Nat} {ns nl np ml nk nw : Nat} {pl fa fb sl pp pm ki fr tg wh bw : Nat → Nat} {rs sn : Nat → Int32} {fl : Nat → Bool} {qw : Nat → Nat → Nat → Nat → Bool} {I : hI} {J : hJ} {lt tx : Option Nat} {x w : Int32} {Q : hQ} (hG : cG I ns nl np ml nk nw pl fa fb sl pp pm ki fr tg wh bw rs sn fl qw) (hB : ¬ (isIx x np ∧ nI 0 ≤ w ∧ w ≤ nI 1) → Q (some (.long (-1))) hSH I J (hRR lt tx)) (h3 : (nI 0 ≤ w ∧ w ≤ nI 1) → ∀ p, x = nI p → p < np → spN ns nl np ml nk nw pl fa fb sl pp pm ki fr tg wh bw rs sn fl qw p = none → ∀ I', CO I I' → Q (some (.long (-3))) hSH I' J (hRR lt tx)) (h4 : (nI 0 ≤ w ∧ w ≤ nI 1) → ∀ p q, x = nI p → p < np → spN ns nl np ml nk nw pl fa fb sl pp pm ki fr tg wh bw rs sn fl qw p = some q → (¬ ∀ r, r < np → ¬ spc (spN ns nl np ml nk nw pl fa fb sl pp pm ki fr tg wh bw rs sn fl qw r) = -4) → ∀ I', CO I I' → Q (some (.long (-4))) hSH I' J (hRR lt tx)) (hO : (nI 0 ≤ w ∧ w ≤ nI 1) → ∀ p q, x = nI p → p < np → spN ns nl np ml nk nw pl fa fb sl pp pm ki fr tg wh bw rs sn fl qw p = some q → (∀ r, r < np → ¬ spc (spN ns nl np ml nk nw pl fa fb sl pp pm ki fr tg wh bw rs sn fl qw r) = -4) → ∀ I', CO I I' → (w = nI 0 → Q (some (.long (nL (sW (spN ns nl np ml nk nw pl fa fb sl pp pm ki fr tg wh bw rs sn fl qw) p np q.1.toInt (wd q) / Nat.gcd (sW (spN ns nl np ml nk nw pl fa fb sl pp pm ki fr tg wh bw rs sn fl qw) p np q.1.toInt (wd q)) (iA (spN ns nl np ml nk nw pl fa fb sl pp pm ki fr tg wh bw rs sn fl qw) np))))) hSH I' J (hRR lt tx)) ∧ (w = nI 1 → Q (some (.long (nL (iA (spN ns nl np ml nk nw pl fa fb sl pp pm ki fr tg wh bw rs sn fl qw) np / Nat.gcd (sW (spN ns nl np ml nk nw pl fa fb sl pp pm ki fr tg wh bw rs sn fl qw) p np q.1.toInt (wd q)) (iA (spN ns nl np ml nk nw pl fa fb sl pp pm ki fr tg wh bw rs sn fl qw) np))))) hSH I' J (hRR lt tx))) : HC l mX11_highest (dp + 7) 0 0 [.ref 0, .int x, .int w] hSH I J (hRR lt tx) Q := by
  refine HC.of (by decide +kernel) rfl (Nat.le_of_ble_eq_true rfl) ?_
  obtain ⟨⟨hN, hdo, hla, hlv⟩, hw, ⟨hnp, hml, hnk, hpt, hsi, hbt⟩, ⟨hn8, hm2, hn24, hpW, hsW⟩, hL⟩ := id hG
  obtain ⟨hns, hnl, hpl, hlg⟩ := id hN
  obtain ⟨hn6, hl12, hW, hp99, hr99⟩ := id hw
  by_cases e_0 : w = nI 0
  · subst e_0
    show HV l mX11_highest (dp + 7) 0 0 0 [some (.ref 0), some (.int x), some (.int (nI 0)), none, none, none, none, none, none, none] [] hSH I J (hRR lt tx) Q
    refine h_aload_n dX11_highest_0 rfl ?_
    refine h_iload_n dX11_highest_1 rfl ?_
    refine h_cV1 dX11_highest_2 k3_11 oVX11_isPoint rfl rfl ?_
    refine c_isPoint (n := np) hnp (by omega) (fun b1 => ?_) (fun b1 => ?_)
    · refine h_ifeq (tgt := 17) dX11_highest_5 rfl (fun c => absurd c (by decide)) (fun _ => ?_)
      refine h_iload_n dX11_highest_8 rfl ?_
      refine h_iconst dX11_highest_9 ci_0 ?_
      refine h_iconst dX11_highest_10 ci_1 ?_
      refine h_cS3 dX11_highest_11 k2_154 oSX11_within rfl ?_
      refine c_X11_within (fun b2 => ?_) (fun b2 => ?_)
      · obtain ⟨p, hp, rfl⟩ := b1
        refine h_ifne (tgt := 21) dX11_highest_14 rfl (fun _ => ?_) (fun c => absurd c (by decide))
        refine h_aload_n dX11_highest_21 rfl ?_
        refine h_getR dX11_highest_22 f_X11_10_9 rfl rfl ?_
        refine h_cV0 dX11_highest_25 k3_154 oVX10_measureAll rfl rfl ?_
        refine c_measureAll hG (fun g1 g2 g3 hal => ?_)
        obtain ⟨ct1, ct2⟩ := ctr_0 (f := fun r => spc (spN ns nl np ml nk nw pl fa fb sl pp pm ki fr tg wh bw rs sn fl qw r)) np
        have ct2 : ctr (fun p => spc (spG (inS nl fa fb sl fr tg fl p (-9)) (loK nl np ml nw pl fa fb sl pp pm ki fr tg wh bw rs sn qw) (hiK nl np ml nw pl fa fb sl pp pm ki fr tg wh bw rs sn qw) nk)) np ≤ 1 := ct2
        refine h_istore_n dX11_highest_28 (Nat.le_of_ble_eq_true rfl) ?_
        refine h_aload_n dX11_highest_29 rfl ?_
        refine h_getR dX11_highest_30 f_X11_10_9 rfl rfl ?_
        refine h_getR dX11_highest_33 f_X11_267_8 rfl rfl ?_
        refine h_iload_n dX11_highest_36 rfl ?_
        refine h_ialdN (j := p) dX11_highest_37 rfl rfl (by omega) rfl (hal p hp).2 ?_
        refine h_bipush dX11_highest_38 cb_m3 ?_
        refine h_icmpne (tgt := 47) dX11_highest_40 rfl (fun c_40 => ?_) (fun c_40 => ?_)
        · obtain ⟨q, hsq⟩ : ∃ q, spN ns nl np ml nk nw pl fa fb sl pp pm ki fr tg wh bw rs sn fl qw p = some q := by
            cases e : spN ns nl np ml nk nw pl fa fb sl pp pm ki fr tg wh bw rs sn fl qw p with
            | none => exact absurd (spc_3.mpr e) c_40
            | some q => exact ⟨q, rfl⟩
          refine h_iload_n dX11_highest_47 rfl ?_
          refine h_ifeq (tgt := 55) dX11_highest_48 rfl (fun c_48 => ?_) (fun c_48 => ?_)
          · rw [show (0 : Int32) = nI 0 from rfl, nI_eq (by omega) (by omega)] at c_48
            have hno := ct1.mp c_48
            have hOW := sp_OW (fl := fl) hw ⟨hn8, hm2, hn24, hpW, hsW⟩ (fun _ _ _ => cL_le hL) hno
            have hWb := sW_b hOW hn8 hp (lo := q.1.toInt) (wd q)
            obtain ⟨-, hwq, -⟩ := hOW p hp q hsq
            have hw135 : wd q ≤ 135 := by unfold wd; omega
            obtain ⟨hA1, hA2⟩ := iA_b hOW np (by omega)
            have hA3 := p135 hn8
            have hWc : sW (spN ns nl np ml nk nw pl fa fb sl pp pm ki fr tg wh bw rs sn fl qw) p np q.1.toInt (wd q) ≤ 135 * 817215093984375 := Nat.le_trans hWb (Nat.mul_le_mul_right _ hw135)
            have hg1 : 0 < Nat.gcd (sW (spN ns nl np ml nk nw pl fa fb sl pp pm ki fr tg wh bw rs sn fl qw) p np q.1.toInt (wd q)) (iA (spN ns nl np ml nk nw pl fa fb sl pp pm ki fr tg wh bw rs sn fl qw) np) := Nat.gcd_pos_of_pos_right _ (by omega)
            have hg2 : Nat.gcd (sW (spN ns nl np ml nk nw pl fa fb sl pp pm ki fr tg wh bw rs sn fl qw) p np q.1.toInt (wd q)) (iA (spN ns nl np ml nk nw pl fa fb sl pp pm ki fr tg wh bw rs sn fl qw) np) ≤ iA (spN ns nl np ml nk nw pl fa fb sl pp pm ki fr tg wh bw rs sn fl qw) np := Nat.gcd_le_right _ (by omega)
            refine h_aload_n dX11_highest_55 rfl ?_
            refine h_getR dX11_highest_56 f_X11_10_9 rfl rfl ?_
            refine h_iload_n dX11_highest_59 rfl ?_
            refine h_cV1 dX11_highest_60 k3_169 oVX10_waysHighest rfl rfl ?_
            refine c_waysHighest (O := spN ns nl np ml nk nw pl fa fb sl pp pm ki fr tg wh bw rs sn fl qw) (I := (upA (upA (upA I 25 g1) 26 g2) 27 g3)) (x := p) (qx := q) hnp hn8 hal hOW hp hsq ?_
            refine h_lstore dX11_highest_63 (Nat.le_of_ble_eq_true rfl) ?_
            refine h_aload_n dX11_highest_65 rfl ?_
            refine h_getR dX11_highest_66 f_X11_10_9 rfl rfl ?_
            refine h_cV0 dX11_highest_69 k3_177 oVX10_waysInAll rfl rfl ?_
            refine c_waysInAll (O := spN ns nl np ml nk nw pl fa fb sl pp pm ki fr tg wh bw rs sn fl qw) (I := (upA (upA (upA I 25 g1) 26 g2) 27 g3)) hnp hn8 hal hOW ?_
            refine h_lstore dX11_highest_72 (Nat.le_of_ble_eq_true rfl) ?_
            refine h_lload dX11_highest_74 rfl ?_
            refine h_lload dX11_highest_76 rfl ?_
            refine h_cS2 dX11_highest_78 k3_181 oSX11_sharedDivisor rfl ?_
            refine c_sharedDivisor (a := sW (spN ns nl np ml nk nw pl fa fb sl pp pm ki fr tg wh bw rs sn fl qw) p np q.1.toInt (wd q)) (b := iA (spN ns nl np ml nk nw pl fa fb sl pp pm ki fr tg wh bw rs sn fl qw) np) (by omega) (by omega) ?_
            refine h_lstore dX11_highest_81 (Nat.le_of_ble_eq_true rfl) ?_
            refine h_lload dX11_highest_83 rfl ?_
            refine h_lconst (v := 0) dX11_highest_85 rfl ?_
            refine h_lcmp dX11_highest_86 ?_
            refine h_ifgt (tgt := 94) dX11_highest_87 rfl (fun c_87 => ?_) (fun c_87 => ?_)
            · refine h_iload_n dX11_highest_94 rfl ?_
              refine h_ifne (tgt := 106) dX11_highest_95 rfl (fun c => absurd (by decide) c) (fun _ => ?_)
              refine h_lload dX11_highest_98 rfl ?_
              refine h_lload dX11_highest_100 rfl ?_
              refine h_ldiv dX11_highest_102 (fun z => absurd ((nL_eq (b := 0) (by omega) (by omega)).mp z) (by omega)) ?_
              refine h_goto (tgt := 111) dX11_highest_103 rfl ?_
              refine h_lreturn dX11_highest_111 rfl ?_
              rw [nL_div (by omega) (by omega) hg1]
              exact (hO (by decide) p q rfl hp hsq hno _ (CO_3 I g1 g2 g3)).1 rfl
            · exact absurd ((lg_gt _ _).mpr ((nL_lt (a := 0) (by omega) (by omega)).mpr hg1)) c_87
          · rw [show (0 : Int32) = nI 0 from rfl, nI_eq (by omega) (by omega)] at c_48
            refine h_ldc2 dX11_highest_51 k3_168 ?_
            refine h_lreturn dX11_highest_54 rfl ?_
            exact h4 (by decide) p q rfl hp hsq (fun z => c_48 (ct1.mpr z)) _ (CO_3 I g1 g2 g3)
        · refine h_ldc2 dX11_highest_43 k3_167 ?_
          refine h_lreturn dX11_highest_46 rfl ?_
          exact h3 (by decide) p rfl hp (spc_3.mp c_40) _ (CO_3 I g1 g2 g3)
      · exact absurd (by decide) b2
    · refine h_ifeq (tgt := 17) dX11_highest_5 rfl (fun _ => ?_) (fun c => absurd (by decide) c)
      refine h_ldc2 dX11_highest_17 k3_166 ?_
      refine h_lreturn dX11_highest_20 rfl ?_
      exact hB (fun z => b1 z.1)
  by_cases e_1 : w = nI 1
  · subst e_1
    show HV l mX11_highest (dp + 7) 0 0 0 [some (.ref 0), some (.int x), some (.int (nI 1)), none, none, none, none, none, none, none] [] hSH I J (hRR lt tx) Q
    refine h_aload_n dX11_highest_0 rfl ?_
    refine h_iload_n dX11_highest_1 rfl ?_
    refine h_cV1 dX11_highest_2 k3_11 oVX11_isPoint rfl rfl ?_
    refine c_isPoint (n := np) hnp (by omega) (fun b1 => ?_) (fun b1 => ?_)
    · refine h_ifeq (tgt := 17) dX11_highest_5 rfl (fun c => absurd c (by decide)) (fun _ => ?_)
      refine h_iload_n dX11_highest_8 rfl ?_
      refine h_iconst dX11_highest_9 ci_0 ?_
      refine h_iconst dX11_highest_10 ci_1 ?_
      refine h_cS3 dX11_highest_11 k2_154 oSX11_within rfl ?_
      refine c_X11_within (fun b2 => ?_) (fun b2 => ?_)
      · obtain ⟨p, hp, rfl⟩ := b1
        refine h_ifne (tgt := 21) dX11_highest_14 rfl (fun _ => ?_) (fun c => absurd c (by decide))
        refine h_aload_n dX11_highest_21 rfl ?_
        refine h_getR dX11_highest_22 f_X11_10_9 rfl rfl ?_
        refine h_cV0 dX11_highest_25 k3_154 oVX10_measureAll rfl rfl ?_
        refine c_measureAll hG (fun g1 g2 g3 hal => ?_)
        obtain ⟨ct1, ct2⟩ := ctr_0 (f := fun r => spc (spN ns nl np ml nk nw pl fa fb sl pp pm ki fr tg wh bw rs sn fl qw r)) np
        have ct2 : ctr (fun p => spc (spG (inS nl fa fb sl fr tg fl p (-9)) (loK nl np ml nw pl fa fb sl pp pm ki fr tg wh bw rs sn qw) (hiK nl np ml nw pl fa fb sl pp pm ki fr tg wh bw rs sn qw) nk)) np ≤ 1 := ct2
        refine h_istore_n dX11_highest_28 (Nat.le_of_ble_eq_true rfl) ?_
        refine h_aload_n dX11_highest_29 rfl ?_
        refine h_getR dX11_highest_30 f_X11_10_9 rfl rfl ?_
        refine h_getR dX11_highest_33 f_X11_267_8 rfl rfl ?_
        refine h_iload_n dX11_highest_36 rfl ?_
        refine h_ialdN (j := p) dX11_highest_37 rfl rfl (by omega) rfl (hal p hp).2 ?_
        refine h_bipush dX11_highest_38 cb_m3 ?_
        refine h_icmpne (tgt := 47) dX11_highest_40 rfl (fun c_40 => ?_) (fun c_40 => ?_)
        · obtain ⟨q, hsq⟩ : ∃ q, spN ns nl np ml nk nw pl fa fb sl pp pm ki fr tg wh bw rs sn fl qw p = some q := by
            cases e : spN ns nl np ml nk nw pl fa fb sl pp pm ki fr tg wh bw rs sn fl qw p with
            | none => exact absurd (spc_3.mpr e) c_40
            | some q => exact ⟨q, rfl⟩
          refine h_iload_n dX11_highest_47 rfl ?_
          refine h_ifeq (tgt := 55) dX11_highest_48 rfl (fun c_48 => ?_) (fun c_48 => ?_)
          · rw [show (0 : Int32) = nI 0 from rfl, nI_eq (by omega) (by omega)] at c_48
            have hno := ct1.mp c_48
            have hOW := sp_OW (fl := fl) hw ⟨hn8, hm2, hn24, hpW, hsW⟩ (fun _ _ _ => cL_le hL) hno
            have hWb := sW_b hOW hn8 hp (lo := q.1.toInt) (wd q)
            obtain ⟨-, hwq, -⟩ := hOW p hp q hsq
            have hw135 : wd q ≤ 135 := by unfold wd; omega
            obtain ⟨hA1, hA2⟩ := iA_b hOW np (by omega)
            have hA3 := p135 hn8
            have hWc : sW (spN ns nl np ml nk nw pl fa fb sl pp pm ki fr tg wh bw rs sn fl qw) p np q.1.toInt (wd q) ≤ 135 * 817215093984375 := Nat.le_trans hWb (Nat.mul_le_mul_right _ hw135)
            have hg1 : 0 < Nat.gcd (sW (spN ns nl np ml nk nw pl fa fb sl pp pm ki fr tg wh bw rs sn fl qw) p np q.1.toInt (wd q)) (iA (spN ns nl np ml nk nw pl fa fb sl pp pm ki fr tg wh bw rs sn fl qw) np) := Nat.gcd_pos_of_pos_right _ (by omega)
            have hg2 : Nat.gcd (sW (spN ns nl np ml nk nw pl fa fb sl pp pm ki fr tg wh bw rs sn fl qw) p np q.1.toInt (wd q)) (iA (spN ns nl np ml nk nw pl fa fb sl pp pm ki fr tg wh bw rs sn fl qw) np) ≤ iA (spN ns nl np ml nk nw pl fa fb sl pp pm ki fr tg wh bw rs sn fl qw) np := Nat.gcd_le_right _ (by omega)
            refine h_aload_n dX11_highest_55 rfl ?_
            refine h_getR dX11_highest_56 f_X11_10_9 rfl rfl ?_
            refine h_iload_n dX11_highest_59 rfl ?_
            refine h_cV1 dX11_highest_60 k3_169 oVX10_waysHighest rfl rfl ?_
            refine c_waysHighest (O := spN ns nl np ml nk nw pl fa fb sl pp pm ki fr tg wh bw rs sn fl qw) (I := (upA (upA (upA I 25 g1) 26 g2) 27 g3)) (x := p) (qx := q) hnp hn8 hal hOW hp hsq ?_
            refine h_lstore dX11_highest_63 (Nat.le_of_ble_eq_true rfl) ?_
            refine h_aload_n dX11_highest_65 rfl ?_
            refine h_getR dX11_highest_66 f_X11_10_9 rfl rfl ?_
            refine h_cV0 dX11_highest_69 k3_177 oVX10_waysInAll rfl rfl ?_
            refine c_waysInAll (O := spN ns nl np ml nk nw pl fa fb sl pp pm ki fr tg wh bw rs sn fl qw) (I := (upA (upA (upA I 25 g1) 26 g2) 27 g3)) hnp hn8 hal hOW ?_
            refine h_lstore dX11_highest_72 (Nat.le_of_ble_eq_true rfl) ?_
            refine h_lload dX11_highest_74 rfl ?_
            refine h_lload dX11_highest_76 rfl ?_
            refine h_cS2 dX11_highest_78 k3_181 oSX11_sharedDivisor rfl ?_
            refine c_sharedDivisor (a := sW (spN ns nl np ml nk nw pl fa fb sl pp pm ki fr tg wh bw rs sn fl qw) p np q.1.toInt (wd q)) (b := iA (spN ns nl np ml nk nw pl fa fb sl pp pm ki fr tg wh bw rs sn fl qw) np) (by omega) (by omega) ?_
            refine h_lstore dX11_highest_81 (Nat.le_of_ble_eq_true rfl) ?_
            refine h_lload dX11_highest_83 rfl ?_
            refine h_lconst (v := 0) dX11_highest_85 rfl ?_
            refine h_lcmp dX11_highest_86 ?_
            refine h_ifgt (tgt := 94) dX11_highest_87 rfl (fun c_87 => ?_) (fun c_87 => ?_)
            · refine h_iload_n dX11_highest_94 rfl ?_
              refine h_ifne (tgt := 106) dX11_highest_95 rfl (fun _ => ?_) (fun c => absurd c (by decide))
              refine h_lload dX11_highest_106 rfl ?_
              refine h_lload dX11_highest_108 rfl ?_
              refine h_ldiv dX11_highest_110 (fun z => absurd ((nL_eq (b := 0) (by omega) (by omega)).mp z) (by omega)) ?_
              refine h_lreturn dX11_highest_111 rfl ?_
              rw [nL_div (by omega) (by omega) hg1]
              exact (hO (by decide) p q rfl hp hsq hno _ (CO_3 I g1 g2 g3)).2 rfl
            · exact absurd ((lg_gt _ _).mpr ((nL_lt (a := 0) (by omega) (by omega)).mpr hg1)) c_87
          · rw [show (0 : Int32) = nI 0 from rfl, nI_eq (by omega) (by omega)] at c_48
            refine h_ldc2 dX11_highest_51 k3_168 ?_
            refine h_lreturn dX11_highest_54 rfl ?_
            exact h4 (by decide) p q rfl hp hsq (fun z => c_48 (ct1.mpr z)) _ (CO_3 I g1 g2 g3)
        · refine h_ldc2 dX11_highest_43 k3_167 ?_
          refine h_lreturn dX11_highest_46 rfl ?_
          exact h3 (by decide) p rfl hp (spc_3.mp c_40) _ (CO_3 I g1 g2 g3)
      · exact absurd (by decide) b2
    · refine h_ifeq (tgt := 17) dX11_highest_5 rfl (fun _ => ?_) (fun c => absurd (by decide) c)
      refine h_ldc2 dX11_highest_17 k3_166 ?_
      refine h_lreturn dX11_highest_20 rfl ?_
      exact hB (fun z => b1 z.1)
  show HV l mX11_highest (dp + 7) 0 0 0 [some (.ref 0), some (.int x), some (.int w), none, none, none, none, none, none, none] [] hSH I J (hRR lt tx) Q
  refine h_aload_n dX11_highest_0 rfl ?_
  refine h_iload_n dX11_highest_1 rfl ?_
  refine h_cV1 dX11_highest_2 k3_11 oVX11_isPoint rfl rfl ?_
  refine c_isPoint (n := np) hnp (by omega) (fun b1 => ?_) (fun b1 => ?_)
  · refine h_ifeq (tgt := 17) dX11_highest_5 rfl (fun c => absurd c (by decide)) (fun _ => ?_)
    refine h_iload_n dX11_highest_8 rfl ?_
    refine h_iconst dX11_highest_9 ci_0 ?_
    refine h_iconst dX11_highest_10 ci_1 ?_
    refine h_cS3 dX11_highest_11 k2_154 oSX11_within rfl ?_
    refine c_X11_within (fun b2 => ?_) (fun b2 => ?_)
    · exfalso
      obtain ⟨wn, rfl, hw1, hw9⟩ := rng_ex (by omega) (by omega) b2.1 b2.2
      rcases (show wn = 0 ∨ wn = 1 by omega) with rfl | rfl
      · exact e_0 rfl
      · exact e_1 rfl
    · refine h_ifne (tgt := 21) dX11_highest_14 rfl (fun c => absurd (by decide) c) (fun _ => ?_)
      refine h_ldc2 dX11_highest_17 k3_166 ?_
      refine h_lreturn dX11_highest_20 rfl ?_
      exact hB (fun z => b2 z.2)
  · refine h_ifeq (tgt := 17) dX11_highest_5 rfl (fun _ => ?_) (fun c => absurd (by decide) c)
    refine h_ldc2 dX11_highest_17 k3_166 ?_
    refine h_lreturn dX11_highest_20 rfl ?_
    exact hB (fun z => b1 z.1)
theorem r_highest2 {l : Launch} {dp : Nat} {ns nl np ml nk nw : Nat} {pl fa fb sl pp pm ki fr tg wh bw : Nat → Nat} {rs sn : Nat → Int32} {fl : Nat → Bool} {qw : Nat → Nat → Nat → Nat → Bool} {I : hI} {J : hJ} {lt tx : Option Nat} {x w : Int32} {Q : hQ} (hG : rG I ns nl np ml nk nw pl fa fb sl pp pm ki fr tg wh bw rs sn fl qw) (hB : ¬ (isIx x np ∧ nI 0 ≤ w ∧ w ≤ nI 1) → Q (some (.long (-1))) hSH I J (hRR lt tx)) (h3 : (nI 0 ≤ w ∧ w ≤ nI 1) → ∀ p, x = nI p → p < np → spN ns nl np ml nk nw pl fa fb sl pp pm ki fr tg wh bw rs sn fl qw p = none → ∀ I', HR I I' → Q (some (.long (-3))) hSH I' J (hRR lt tx)) (h4 : (nI 0 ≤ w ∧ w ≤ nI 1) → ∀ p q, x = nI p → p < np → spN ns nl np ml nk nw pl fa fb sl pp pm ki fr tg wh bw rs sn fl qw p = some q → (¬ ∀ r, r < np → ¬ spc (spN ns nl np ml nk nw pl fa fb sl pp pm ki fr tg wh bw rs sn fl qw r) = -4) → ∀ I', HR I I' → Q (some (.long (-4))) hSH I' J (hRR lt tx)) (hO : (nI 0 ≤ w ∧ w ≤ nI 1) → ∀ p q, x = nI p → p < np → spN ns nl np ml nk nw pl fa fb sl pp pm ki fr tg wh bw rs sn fl qw p = some q → (∀ r, r < np → ¬ spc (spN ns nl np ml nk nw pl fa fb sl pp pm ki fr tg wh bw rs sn fl qw r) = -4) → ∀ I', HR I I' → (w = nI 0 → Q (some (.long (nL (sW (spN ns nl np ml nk nw pl fa fb sl pp pm ki fr tg wh bw rs sn fl qw) p np q.1.toInt (wd q) / Nat.gcd (sW (spN ns nl np ml nk nw pl fa fb sl pp pm ki fr tg wh bw rs sn fl qw) p np q.1.toInt (wd q)) (iA (spN ns nl np ml nk nw pl fa fb sl pp pm ki fr tg wh bw rs sn fl qw) np))))) hSH I' J (hRR lt tx)) ∧ (w = nI 1 → Q (some (.long (nL (iA (spN ns nl np ml nk nw pl fa fb sl pp pm ki fr tg wh bw rs sn fl qw) np / Nat.gcd (sW (spN ns nl np ml nk nw pl fa fb sl pp pm ki fr tg wh bw rs sn fl qw) p np q.1.toInt (wd q)) (iA (spN ns nl np ml nk nw pl fa fb sl pp pm ki fr tg wh bw rs sn fl qw) np))))) hSH I' J (hRR lt tx))) : HC l mX12_highest (dp + 7) 0 0 [.ref 82, .int x, .int w] hSH I J (hRR lt tx) Q := by
  refine HC.of (by decide +kernel) rfl (Nat.le_of_ble_eq_true rfl) ?_
  obtain ⟨hN, hw, ⟨hnp, hml, hnk, hpt, hsi⟩, ⟨hn8, hm2, hn24, hpW, hsW⟩, hL⟩ := id hG
  obtain ⟨hns, hnl, hpl, hlg⟩ := id hN
  obtain ⟨hn6, hl12, hW, hp99, hr99⟩ := id hw
  have Lg : ∀ (p W A : Nat) (I2 : hI), W < 9223372036854775808 → 0 < A → A < 2 ^ 63 → (w = nI 0 ∨ w = nI 1) → ((w = nI 0 → Q (some (.long (nL (W / Nat.gcd W A)))) hSH I2 J (hRR lt tx)) ∧ (w = nI 1 → Q (some (.long (nL (A / Nat.gcd W A)))) hSH I2 J (hRR lt tx))) → ∀ (f a b : Nat), eu f a b → a < 9223372036854775808 → b < 9223372036854775808 → Nat.gcd a b = Nat.gcd W A → ∀ z3 z12 z13, HV l mX12_highest (dp + 7) 0 0 314 [some (.ref 82), some (.int (nI p)), some (.int w), z3, some (.long (nL A)), none, some (.long (nL W)), none, some (.long (nL a)), none, some (.long (nL b)), none, z12, z13] [] hSH I2 J (hRR lt tx) Q := by
    intro p W A I2 hW hA0 hA h01 hX f
    have hg1 : 0 < Nat.gcd W A := Nat.gcd_pos_of_pos_right _ hA0
    have hg2 : Nat.gcd W A ≤ A := Nat.gcd_le_right _ hA0
    induction f with
    | zero =>
      intro a b he ha hb hg z3 z12 z13
      have he : b = 0 := he
      subst he
      refine h_lload dX12_highest_314 rfl ?_
      refine h_lconst (v := 0) dX12_highest_316 rfl ?_
      refine h_lcmp dX12_highest_317 ?_
      refine h_ifeq (tgt := 339) dX12_highest_318 rfl (fun c_318 => ?_) (fun c_318 => ?_)
      · rw [show Nat.gcd a 0 = a from Nat.gcd_zero_right a] at hg
        refine h_iload_n dX12_highest_339 rfl ?_
        refine h_ifne (tgt := 348) dX12_highest_340 rfl (fun c_340 => ?_) (fun c_340 => ?_)
        · refine h_lload dX12_highest_348 rfl ?_
          refine h_lload dX12_highest_350 rfl ?_
          refine h_ldiv dX12_highest_352 (fun z => absurd ((nL_eq (b := 0) (by omega) (by omega)).mp z) (by omega)) ?_
          refine h_lreturn dX12_highest_353 rfl ?_
          rw [hg, nL_div (by omega) (by omega) hg1]
          refine hX.2 (h01.resolve_left (fun z => c_340 (by rw [z]; rfl)))
        · refine h_lload dX12_highest_343 rfl ?_
          refine h_goto (tgt := 350) dX12_highest_345 rfl ?_
          refine h_lload dX12_highest_350 rfl ?_
          refine h_ldiv dX12_highest_352 (fun z => absurd ((nL_eq (b := 0) (by omega) (by omega)).mp z) (by omega)) ?_
          refine h_lreturn dX12_highest_353 rfl ?_
          rw [hg, nL_div (by omega) (by omega) hg1]
          exact hX.1 c_340
      · exact absurd ((lg_0 _ _).mpr rfl) c_318
    | succ f ih =>
      intro a b he ha hb hg z3 z12 z13
      refine h_lload dX12_highest_314 rfl ?_
      refine h_lconst (v := 0) dX12_highest_316 rfl ?_
      refine h_lcmp dX12_highest_317 ?_
      refine h_ifeq (tgt := 339) dX12_highest_318 rfl (fun c_318 => ?_) (fun c_318 => ?_)
      · have hb0 : b = 0 := (nL_eq hb (by omega)).mp ((lg_0 _ _).mp c_318)
        subst hb0
        rw [show Nat.gcd a 0 = a from Nat.gcd_zero_right a] at hg
        refine h_iload_n dX12_highest_339 rfl ?_
        refine h_ifne (tgt := 348) dX12_highest_340 rfl (fun c_340 => ?_) (fun c_340 => ?_)
        · refine h_lload dX12_highest_348 rfl ?_
          refine h_lload dX12_highest_350 rfl ?_
          refine h_ldiv dX12_highest_352 (fun z => absurd ((nL_eq (b := 0) (by omega) (by omega)).mp z) (by omega)) ?_
          refine h_lreturn dX12_highest_353 rfl ?_
          rw [hg, nL_div (by omega) (by omega) hg1]
          refine hX.2 (h01.resolve_left (fun z => c_340 (by rw [z]; rfl)))
        · refine h_lload dX12_highest_343 rfl ?_
          refine h_goto (tgt := 350) dX12_highest_345 rfl ?_
          refine h_lload dX12_highest_350 rfl ?_
          refine h_ldiv dX12_highest_352 (fun z => absurd ((nL_eq (b := 0) (by omega) (by omega)).mp z) (by omega)) ?_
          refine h_lreturn dX12_highest_353 rfl ?_
          rw [hg, nL_div (by omega) (by omega) hg1]
          exact hX.1 c_340
      · have hb0 : ¬ b = 0 := fun z => c_318 ((lg_0 _ _).mpr (by rw [z]; rfl))
        refine h_lload dX12_highest_321 rfl ?_
        refine h_lload dX12_highest_323 rfl ?_
        refine h_lrem dX12_highest_325 (fun z => hb0 ((nL_eq hb (by omega)).mp z)) ?_
        refine h_lstore dX12_highest_326 (Nat.le_of_ble_eq_true rfl) ?_
        refine h_lload dX12_highest_328 rfl ?_
        refine h_lstore dX12_highest_330 (Nat.le_of_ble_eq_true rfl) ?_
        refine h_lload dX12_highest_332 rfl ?_
        refine h_lstore dX12_highest_334 (Nat.le_of_ble_eq_true rfl) ?_
        refine h_goto (tgt := 314) dX12_highest_336 rfl ?_
        have hm : a % b < b := Nat.mod_lt _ (by omega)
        rw [nL_rem ha hb (by omega)]
        exact ih b (a % b) (he.resolve_left hb0) hb (by omega) (gcd_step.trans hg) _ _ _
  have L3 : ∀ (p : Nat) (q : Int32 × Int32) (I2 : hI), p < np → spN ns nl np ml nk nw pl fa fb sl pp pm ki fr tg wh bw rs sn fl qw p = some q → HR I I2 → (∀ r, r < np → spR (spN ns nl np ml nk nw pl fa fb sl pp pm ki fr tg wh bw rs sn fl qw r) (I2 93 r) (I2 94 r) ∧ I2 95 r = if spc (spN ns nl np ml nk nw pl fa fb sl pp pm ki fr tg wh bw rs sn fl qw r) = 0 then nI 1 else nI 0) → OW (spN ns nl np ml nk nw pl fa fb sl pp pm ki fr tg wh bw rs sn fl qw) np → (w = nI 0 ∨ w = nI 1) → ((w = nI 0 → Q (some (.long (nL (sW (spN ns nl np ml nk nw pl fa fb sl pp pm ki fr tg wh bw rs sn fl qw) p np q.1.toInt (wd q) / Nat.gcd (sW (spN ns nl np ml nk nw pl fa fb sl pp pm ki fr tg wh bw rs sn fl qw) p np q.1.toInt (wd q)) (iA (spN ns nl np ml nk nw pl fa fb sl pp pm ki fr tg wh bw rs sn fl qw) np))))) hSH I2 J (hRR lt tx)) ∧ (w = nI 1 → Q (some (.long (nL (iA (spN ns nl np ml nk nw pl fa fb sl pp pm ki fr tg wh bw rs sn fl qw) np / Nat.gcd (sW (spN ns nl np ml nk nw pl fa fb sl pp pm ki fr tg wh bw rs sn fl qw) p np q.1.toInt (wd q)) (iA (spN ns nl np ml nk nw pl fa fb sl pp pm ki fr tg wh bw rs sn fl qw) np))))) hSH I2 J (hRR lt tx))) → ∀ z3 z9 z10 z11 z12 z13, HV l mX12_highest (dp + 7) 0 0 196 [some (.ref 82), some (.int (nI p)), some (.int w), z3, some (.long (nL (iA (spN ns nl np ml nk nw pl fa fb sl pp pm ki fr tg wh bw rs sn fl qw) np))), none, some (.long 0), none, some (.int q.1), z9, z10, z11, z12, z13] [] hSH I2 J (hRR lt tx) Q := by
    intro p q I2 hp hsq hC hF hOW h01 hX
    have hn2 : I2 82 4 = nI np := ((HR_out hC).2 4 (by decide) (by decide)).trans hnp
    obtain ⟨o1, o2, o3, o4⟩ := hOW p hp q hsq
    have hw135 : wd q ≤ 135 := by unfold wd; omega
    have hwe : (wd q : Int) = q.2.toInt - q.1.toInt + 1 := by unfold wd; omega
    unfold bd at o3 o4
    obtain ⟨fy1, fy2⟩ := hF p hp
    rw [hsq] at fy1
    have hfj : ∀ j, j ≤ 136 → (q.1 + nI j).toInt = q.1.toInt + j := fun j hj => by
      have e := nI_toInt (show j < 2147483648 by omega)
      rw [sb_add (by rw [e]; omega) (by rw [e]; omega), e]
    have hWb := sW_b hOW hn8 hp (lo := q.1.toInt) (wd q)
    obtain ⟨hA1, hA2⟩ := iA_b hOW np (by omega)
    have hA3 := p135 hn8
    have hWc : sW (spN ns nl np ml nk nw pl fa fb sl pp pm ki fr tg wh bw rs sn fl qw) p np q.1.toInt (wd q) ≤ 135 * 817215093984375 := Nat.le_trans hWb (Nat.mul_le_mul_right _ hw135)
    have Li : ∀ (j : Nat) (W : Int64), j < wd q → ∀ z3 z12 z13, (HV l mX12_highest (dp + 7) 0 0 196 [some (.ref 82), some (.int (nI p)), some (.int w), z3, some (.long (nL (iA (spN ns nl np ml nk nw pl fa fb sl pp pm ki fr tg wh bw rs sn fl qw) np))), none, some (.long (W + nL (pr (spN ns nl np ml nk nw pl fa fb sl pp pm ki fr tg wh bw rs sn fl qw) p (q.1.toInt + j) np))), none, some (.int (q.1 + nI (j + 1))), some (.long (nL (pr (spN ns nl np ml nk nw pl fa fb sl pp pm ki fr tg wh bw rs sn fl qw) p (q.1.toInt + j) np))), none, some (.int (nI np)), z12, z13] [] hSH I2 J (hRR lt tx) Q) → ∀ (m k : Nat), np - k < m → k ≤ np → HV l mX12_highest (dp + 7) 0 0 213 [some (.ref 82), some (.int (nI p)), some (.int w), z3, some (.long (nL (iA (spN ns nl np ml nk nw pl fa fb sl pp pm ki fr tg wh bw rs sn fl qw) np))), none, some (.long W), none, some (.int (q.1 + nI j)), some (.long (nL (pr (spN ns nl np ml nk nw pl fa fb sl pp pm ki fr tg wh bw rs sn fl qw) p (q.1.toInt + j) k))), none, some (.int (nI k)), z12, z13] [] hSH I2 J (hRR lt tx) Q := by
      intro j W hj z3 z12 z13 hnext m
      induction m with
      | zero => intro k h1 h2; omega
      | succ m ih =>
        intro k h1 h2
        have e1 := hfj j (by omega)
        refine h_iload dX12_highest_213 rfl ?_
        refine h_aload_n dX12_highest_215 rfl ?_
        refine h_getI dX12_highest_216 f_X12_110_10 rfl hn2 ?_
        refine h_icmpge (tgt := 293) dX12_highest_219 rfl (fun c_219 => ?_) (fun c_219 => ?_)
        · rw [nI_leI (by omega) (by omega)] at c_219
          refine h_lload dX12_highest_293 rfl ?_
          refine h_lload dX12_highest_295 rfl ?_
          refine h_ladd dX12_highest_297 ?_
          refine h_lstore dX12_highest_298 (Nat.le_of_ble_eq_true rfl) ?_
          refine h_iinc (v := q.1 + nI (j + 1)) dX12_highest_300 rfl (by rw [← nI_add, ← Int32.add_assoc]; rfl) (Nat.le_of_ble_eq_true rfl) ?_
          refine h_goto (tgt := 196) dX12_highest_303 rfl ?_
          have ek : np = k := by omega
          subst ek
          exact hnext
        · rw [nI_leI (by omega) (by omega)] at c_219
          refine h_iload dX12_highest_222 rfl ?_
          refine h_iload_n dX12_highest_224 rfl ?_
          refine h_icmpeq (tgt := 287) dX12_highest_225 rfl (fun c_225 => ?_) (fun c_225 => ?_)
          · rw [nI_eq (by omega) (by omega)] at c_225
            refine h_iinc (v := nI (k + 1)) dX12_highest_287 rfl (nI_1 _) (Nat.le_of_ble_eq_true rfl) ?_
            refine h_goto (tgt := 213) dX12_highest_290 rfl ?_
            have h3 := ih (k + 1) (by omega) (by omega)
            unfold pr at h3
            rw [if_pos c_225, Nat.mul_one] at h3
            exact h3
          · rw [nI_eq (by omega) (by omega)] at c_225
            refine h_aload_n dX12_highest_228 rfl ?_
            refine h_getR dX12_highest_229 f_X12_46_10 rfl rfl ?_
            refine h_iload dX12_highest_232 rfl ?_
            refine h_zaldN (j := k) dX12_highest_234 rfl rfl (by omega) rfl (hF k (by omega)).2 ?_
            refine h_ifeq (tgt := 287) dX12_highest_235 rfl (fun c_235 => ?_) (fun c_235 => ?_)
            · have hn0 : spN ns nl np ml nk nw pl fa fb sl pp pm ki fr tg wh bw rs sn fl qw k = none := spc_no hOW (show k < np by omega) (fun z => by rw [if_pos z] at c_235; exact absurd c_235 (by decide))
              refine h_iinc (v := nI (k + 1)) dX12_highest_287 rfl (nI_1 _) (Nat.le_of_ble_eq_true rfl) ?_
              refine h_goto (tgt := 213) dX12_highest_290 rfl ?_
              have h3 := ih (k + 1) (by omega) (by omega)
              unfold pr at h3
              rw [if_neg c_225, hn0, show ∀ z, fTO none z = 1 from fun _ => rfl, Nat.mul_one] at h3
              exact h3
            · have hz0 : spc (spN ns nl np ml nk nw pl fa fb sl pp pm ki fr tg wh bw rs sn fl qw k) = 0 := Classical.not_not.mp (fun z => c_235 (by rw [if_neg z]; rfl))
              obtain ⟨r, hsn, hrr⟩ := spE_ok hz0
              obtain ⟨ky, -⟩ := hF k (by omega)
              rw [hsn] at ky
              obtain ⟨p1, p2, p3, p4⟩ := hOW k (by omega) r hsn
              unfold bd at p3 p4
              refine h_lload dX12_highest_238 rfl ?_
              refine h_iload dX12_highest_240 rfl ?_
              refine h_aload_n dX12_highest_242 rfl ?_
              refine h_getR dX12_highest_243 f_X12_40_10 rfl rfl ?_
              refine h_iload dX12_highest_246 rfl ?_
              refine h_ialdN (j := k) dX12_highest_248 rfl rfl (by omega) rfl ky.1 ?_
              refine h_isub dX12_highest_249 ?_
              refine h_i2l dX12_highest_250 ?_
              refine h_iload dX12_highest_251 rfl ?_
              refine h_iload_n dX12_highest_253 rfl ?_
              refine h_icmple (tgt := 261) dX12_highest_254 rfl (fun c_254 => ?_) (fun c_254 => ?_)
              · rw [nI_leI (by omega) (by omega)] at c_254
                refine h_lconst (v := 0) dX12_highest_261 rfl ?_
                refine h_ladd dX12_highest_262 ?_
                refine h_aload_n dX12_highest_263 rfl ?_
                refine h_getR dX12_highest_264 f_X12_43_10 rfl rfl ?_
                refine h_iload dX12_highest_267 rfl ?_
                refine h_ialdN (j := k) dX12_highest_269 rfl rfl (by omega) rfl ky.2 ?_
                refine h_aload_n dX12_highest_270 rfl ?_
                refine h_getR dX12_highest_271 f_X12_40_10 rfl rfl ?_
                refine h_iload dX12_highest_274 rfl ?_
                refine h_ialdN (j := k) dX12_highest_276 rfl rfl (by omega) rfl ky.1 ?_
                refine h_isub dX12_highest_277 ?_
                refine h_i2l dX12_highest_278 ?_
                refine h_lconst (v := 1) dX12_highest_279 rfl ?_
                refine h_ladd dX12_highest_280 ?_
                refine h_cS2 dX12_highest_281 k6_114 oSX12_within rfl ?_
                refine r_within ?_
                refine h_lmul dX12_highest_284 ?_
                refine h_lstore dX12_highest_285 (Nat.le_of_ble_eq_true rfl) ?_
                refine h_iinc (v := nI (k + 1)) dX12_highest_287 rfl (nI_1 _) (Nat.le_of_ble_eq_true rfl) ?_
                refine h_goto (tgt := 213) dX12_highest_290 rfl ?_
                have h3 := ih (k + 1) (by omega) (by omega)
                unfold pr at h3
                rw [if_neg c_225, hsn, if_pos (show k < p by omega), show ∀ z, fTO (some r) z = fT r z from fun _ => rfl, ← nL_mul] at h3
                have e4 : (r.2 - r.1).toInt64 + 1 = nL (wd r) := wd_L p1 p2
                have e5 : clp ((q.1 + nI j - r.1).toInt64 + 0) (nL (wd r)) = nL (fT r (q.1.toInt + j - 1)) := by
                  have := clp_fT (q := r) (f := q.1 + nI j) (e := 0) (by omega) p1 p2 p3 p4 (by rw [e1]; omega)
                  rw [e1, show (q.1.toInt + (j : Int) + ((0 : Nat) : Int) - 1) = q.1.toInt + j - 1 by omega] at this
                  exact this
                rw [e4, e5]
                exact h3
              · rw [nI_leI (by omega) (by omega)] at c_254
                refine h_lconst (v := 1) dX12_highest_257 rfl ?_
                refine h_goto (tgt := 262) dX12_highest_258 rfl ?_
                refine h_ladd dX12_highest_262 ?_
                refine h_aload_n dX12_highest_263 rfl ?_
                refine h_getR dX12_highest_264 f_X12_43_10 rfl rfl ?_
                refine h_iload dX12_highest_267 rfl ?_
                refine h_ialdN (j := k) dX12_highest_269 rfl rfl (by omega) rfl ky.2 ?_
                refine h_aload_n dX12_highest_270 rfl ?_
                refine h_getR dX12_highest_271 f_X12_40_10 rfl rfl ?_
                refine h_iload dX12_highest_274 rfl ?_
                refine h_ialdN (j := k) dX12_highest_276 rfl rfl (by omega) rfl ky.1 ?_
                refine h_isub dX12_highest_277 ?_
                refine h_i2l dX12_highest_278 ?_
                refine h_lconst (v := 1) dX12_highest_279 rfl ?_
                refine h_ladd dX12_highest_280 ?_
                refine h_cS2 dX12_highest_281 k6_114 oSX12_within rfl ?_
                refine r_within ?_
                refine h_lmul dX12_highest_284 ?_
                refine h_lstore dX12_highest_285 (Nat.le_of_ble_eq_true rfl) ?_
                refine h_iinc (v := nI (k + 1)) dX12_highest_287 rfl (nI_1 _) (Nat.le_of_ble_eq_true rfl) ?_
                refine h_goto (tgt := 213) dX12_highest_290 rfl ?_
                have h3 := ih (k + 1) (by omega) (by omega)
                unfold pr at h3
                rw [if_neg c_225, hsn, if_neg (show ¬ k < p by omega), show ∀ z, fTO (some r) z = fT r z from fun _ => rfl, ← nL_mul] at h3
                have e4 : (r.2 - r.1).toInt64 + 1 = nL (wd r) := wd_L p1 p2
                have e5 : clp ((q.1 + nI j - r.1).toInt64 + 1) (nL (wd r)) = nL (fT r (q.1.toInt + j)) := by
                  have := clp_fT (q := r) (f := q.1 + nI j) (e := 1) (by omega) p1 p2 p3 p4 (by rw [e1]; omega)
                  rw [e1, show (q.1.toInt + (j : Int) + ((1 : Nat) : Int) - 1) = q.1.toInt + j by omega] at this
                  exact this
                rw [e4, e5]
                exact h3
    have Lo : ∀ (m j : Nat), wd q - j < m → j ≤ wd q → ∀ z3 z9 z10 z11 z12 z13, HV l mX12_highest (dp + 7) 0 0 196 [some (.ref 82), some (.int (nI p)), some (.int w), z3, some (.long (nL (iA (spN ns nl np ml nk nw pl fa fb sl pp pm ki fr tg wh bw rs sn fl qw) np))), none, some (.long (nL (sW (spN ns nl np ml nk nw pl fa fb sl pp pm ki fr tg wh bw rs sn fl qw) p np q.1.toInt j))), none, some (.int (q.1 + nI j)), z9, z10, z11, z12, z13] [] hSH I2 J (hRR lt tx) Q := by
      intro m
      induction m with
      | zero => intro j h1 h2 z3 z9 z10 z11 z12 z13; omega
      | succ m ih =>
        intro j h1 h2 z3 z9 z10 z11 z12 z13
        have e1 := hfj j (by omega)
        refine h_iload dX12_highest_196 rfl ?_
        refine h_aload_n dX12_highest_198 rfl ?_
        refine h_getR dX12_highest_199 f_X12_43_10 rfl rfl ?_
        refine h_iload_n dX12_highest_202 rfl ?_
        refine h_ialdN (j := p) dX12_highest_203 rfl rfl (by omega) rfl fy1.2 ?_
        refine h_icmpgt (tgt := 306) dX12_highest_204 rfl (fun c_204 => ?_) (fun c_204 => ?_)
        · have c_204 := Int32.lt_iff_toInt_lt.mp c_204
          rw [e1] at c_204
          have ek : j = wd q := by omega
          subst ek
          refine h_lload dX12_highest_306 rfl ?_
          refine h_lstore dX12_highest_308 (Nat.le_of_ble_eq_true rfl) ?_
          refine h_lload dX12_highest_310 rfl ?_
          refine h_lstore dX12_highest_312 (Nat.le_of_ble_eq_true rfl) ?_
          exact Lg p (sW (spN ns nl np ml nk nw pl fa fb sl pp pm ki fr tg wh bw rs sn fl qw) p np q.1.toInt (wd q)) (iA (spN ns nl np ml nk nw pl fa fb sl pp pm ki fr tg wh bw rs sn fl qw) np) I2 (by omega) (by omega) (by omega) h01 hX 126 _ _ (eu_of 63 _ _ (by omega)) (by omega) (by omega) rfl _ _ _
        · have c_204 := Int32.le_iff_toInt_le.mp (Int32.not_lt.mp c_204)
          rw [e1] at c_204
          refine h_lconst (v := 1) dX12_highest_207 rfl ?_
          refine h_lstore dX12_highest_208 (Nat.le_of_ble_eq_true rfl) ?_
          refine h_iconst dX12_highest_210 ci_0 ?_
          refine h_istore dX12_highest_211 (Nat.le_of_ble_eq_true rfl) ?_
          have h3 := ih (j + 1) (by omega) (by omega)
          unfold sW at h3
          rw [← nL_add] at h3
          exact Li j _ (by omega) _ _ _ (h3 _ _ _ _ _ _) (np + 1) 0 (by omega) (by omega)
    intro z3 z9 z10 z11 z12 z13
    have h0 := Lo (wd q + 1) 0 (by omega) (by omega) z3 z9 z10 z11 z12 z13
    rw [show q.1 + nI 0 = q.1 by rw [show nI 0 = (0 : Int32) by decide, Int32.add_zero]] at h0
    exact h0
  have L2 : ∀ (p : Nat) (q : Int32 × Int32) (I2 : hI), p < np → spN ns nl np ml nk nw pl fa fb sl pp pm ki fr tg wh bw rs sn fl qw p = some q → HR I I2 → (∀ r, r < np → spR (spN ns nl np ml nk nw pl fa fb sl pp pm ki fr tg wh bw rs sn fl qw r) (I2 93 r) (I2 94 r) ∧ I2 95 r = if spc (spN ns nl np ml nk nw pl fa fb sl pp pm ki fr tg wh bw rs sn fl qw r) = 0 then nI 1 else nI 0) → OW (spN ns nl np ml nk nw pl fa fb sl pp pm ki fr tg wh bw rs sn fl qw) np → (w = nI 0 ∨ w = nI 1) → ((w = nI 0 → Q (some (.long (nL (sW (spN ns nl np ml nk nw pl fa fb sl pp pm ki fr tg wh bw rs sn fl qw) p np q.1.toInt (wd q) / Nat.gcd (sW (spN ns nl np ml nk nw pl fa fb sl pp pm ki fr tg wh bw rs sn fl qw) p np q.1.toInt (wd q)) (iA (spN ns nl np ml nk nw pl fa fb sl pp pm ki fr tg wh bw rs sn fl qw) np))))) hSH I2 J (hRR lt tx)) ∧ (w = nI 1 → Q (some (.long (nL (iA (spN ns nl np ml nk nw pl fa fb sl pp pm ki fr tg wh bw rs sn fl qw) np / Nat.gcd (sW (spN ns nl np ml nk nw pl fa fb sl pp pm ki fr tg wh bw rs sn fl qw) p np q.1.toInt (wd q)) (iA (spN ns nl np ml nk nw pl fa fb sl pp pm ki fr tg wh bw rs sn fl qw) np))))) hSH I2 J (hRR lt tx))) → ∀ (m k : Nat), np - k < m → k ≤ np → ∀ z3 z7 z8 z9 z10 z11 z12 z13, HV l mX12_highest (dp + 7) 0 0 133 [some (.ref 82), some (.int (nI p)), some (.int w), z3, some (.long (nL (iA (spN ns nl np ml nk nw pl fa fb sl pp pm ki fr tg wh bw rs sn fl qw) k))), none, some (.int (nI k)), z7, z8, z9, z10, z11, z12, z13] [] hSH I2 J (hRR lt tx) Q := by
    intro p q I2 hp hsq hC hF hOW h01 hX m
    have hn2 : I2 82 4 = nI np := ((HR_out hC).2 4 (by decide) (by decide)).trans hnp
    obtain ⟨fy1, fy2⟩ := hF p hp
    rw [hsq] at fy1
    induction m with
    | zero => intro k h1 h2 z3 z7 z8 z9 z10 z11 z12 z13; omega
    | succ m ih =>
      intro k h1 h2 z3 z7 z8 z9 z10 z11 z12 z13
      refine h_iload dX12_highest_133 rfl ?_
      refine h_aload_n dX12_highest_135 rfl ?_
      refine h_getI dX12_highest_136 f_X12_110_10 rfl hn2 ?_
      refine h_icmpge (tgt := 185) dX12_highest_139 rfl (fun c_139 => ?_) (fun c_139 => ?_)
      · rw [nI_leI (by omega) (by omega)] at c_139
        refine h_lconst (v := 0) dX12_highest_185 rfl ?_
        refine h_lstore dX12_highest_186 (Nat.le_of_ble_eq_true rfl) ?_
        refine h_aload_n dX12_highest_188 rfl ?_
        refine h_getR dX12_highest_189 f_X12_40_10 rfl rfl ?_
        refine h_iload_n dX12_highest_192 rfl ?_
        refine h_ialdN (j := p) dX12_highest_193 rfl rfl (by omega) rfl fy1.1 ?_
        refine h_istore dX12_highest_194 (Nat.le_of_ble_eq_true rfl) ?_
        have ek : np = k := by omega
        subst ek
        exact L3 p q I2 hp hsq hC hF hOW h01 hX _ _ _ _ _ _
      · rw [nI_leI (by omega) (by omega)] at c_139
        refine h_lload dX12_highest_142 rfl ?_
        refine h_aload_n dX12_highest_144 rfl ?_
        refine h_getR dX12_highest_145 f_X12_46_10 rfl rfl ?_
        refine h_iload dX12_highest_148 rfl ?_
        refine h_zaldN (j := k) dX12_highest_150 rfl rfl (by omega) rfl (hF k (by omega)).2 ?_
        refine h_ifeq (tgt := 175) dX12_highest_151 rfl (fun c_151 => ?_) (fun c_151 => ?_)
        · have hn0 : spN ns nl np ml nk nw pl fa fb sl pp pm ki fr tg wh bw rs sn fl qw k = none := spc_no hOW (show k < np by omega) (fun z => by rw [if_pos z] at c_151; exact absurd c_151 (by decide))
          refine h_lconst (v := 1) dX12_highest_175 rfl ?_
          refine h_lmul dX12_highest_176 ?_
          refine h_lstore dX12_highest_177 (Nat.le_of_ble_eq_true rfl) ?_
          refine h_iinc (v := nI (k + 1)) dX12_highest_179 rfl (nI_1 _) (Nat.le_of_ble_eq_true rfl) ?_
          refine h_goto (tgt := 133) dX12_highest_182 rfl ?_
          have h3 := ih (k + 1) (by omega) (by omega)
          unfold iA at h3
          rw [hn0, show wdO none = 1 from rfl, ← nL_mul] at h3
          exact h3 _ _ _ _ _ _ _ _
        · have hz0 : spc (spN ns nl np ml nk nw pl fa fb sl pp pm ki fr tg wh bw rs sn fl qw k) = 0 := Classical.not_not.mp (fun z => c_151 (by rw [if_neg z]; rfl))
          obtain ⟨r, hsn, hrr⟩ := spE_ok hz0
          obtain ⟨ky, -⟩ := hF k (by omega)
          rw [hsn] at ky
          obtain ⟨p1, p2, p3, p4⟩ := hOW k (by omega) r hsn
          unfold bd at p3 p4
          refine h_aload_n dX12_highest_154 rfl ?_
          refine h_getR dX12_highest_155 f_X12_43_10 rfl rfl ?_
          refine h_iload dX12_highest_158 rfl ?_
          refine h_ialdN (j := k) dX12_highest_160 rfl rfl (by omega) rfl ky.2 ?_
          refine h_aload_n dX12_highest_161 rfl ?_
          refine h_getR dX12_highest_162 f_X12_40_10 rfl rfl ?_
          refine h_iload dX12_highest_165 rfl ?_
          refine h_ialdN (j := k) dX12_highest_167 rfl rfl (by omega) rfl ky.1 ?_
          refine h_isub dX12_highest_168 ?_
          refine h_i2l dX12_highest_169 ?_
          refine h_lconst (v := 1) dX12_highest_170 rfl ?_
          refine h_ladd dX12_highest_171 ?_
          refine h_goto (tgt := 176) dX12_highest_172 rfl ?_
          refine h_lmul dX12_highest_176 ?_
          refine h_lstore dX12_highest_177 (Nat.le_of_ble_eq_true rfl) ?_
          refine h_iinc (v := nI (k + 1)) dX12_highest_179 rfl (nI_1 _) (Nat.le_of_ble_eq_true rfl) ?_
          refine h_goto (tgt := 133) dX12_highest_182 rfl ?_
          have h3 := ih (k + 1) (by omega) (by omega)
          unfold iA at h3
          rw [hsn, show wdO (some r) = wd r from rfl, ← nL_mul] at h3
          have e4 : (r.2 - r.1).toInt64 + 1 = nL (wd r) := wd_L p1 p2
          rw [e4]
          exact h3 _ _ _ _ _ _ _ _
  have L1 : ∀ (p : Nat) (q : Int32 × Int32), p < np → x = nI p → spN ns nl np ml nk nw pl fa fb sl pp pm ki fr tg wh bw rs sn fl qw p = some q → (w = nI 0 ∨ w = nI 1) → ∀ (m k : Nat) (I2 : hI), HR I I2 → (∀ r, r < k → spR (spN ns nl np ml nk nw pl fa fb sl pp pm ki fr tg wh bw rs sn fl qw r) (I2 93 r) (I2 94 r) ∧ I2 95 r = if spc (spN ns nl np ml nk nw pl fa fb sl pp pm ki fr tg wh bw rs sn fl qw r) = 0 then nI 1 else nI 0) → np - k < m → k ≤ np → ∀ z5 z6 z7 z8 z9 z10 z11 z12 z13, HV l mX12_highest (dp + 7) 0 0 40 [some (.ref 82), some (.int (nI p)), some (.int w), some (.int (nI (ctr (fun r => spc (spN ns nl np ml nk nw pl fa fb sl pp pm ki fr tg wh bw rs sn fl qw r)) k))), some (.int (nI k)), z5, z6, z7, z8, z9, z10, z11, z12, z13] [] hSH I2 J (hRR lt tx) Q := by
    intro p q hp hxp hsq h01 m
    induction m with
    | zero => intro k I2 hC hF h1 h2 z5 z6 z7 z8 z9 z10 z11 z12 z13; omega
    | succ m ih =>
      intro k I2 hC hF h1 h2 z5 z6 z7 z8 z9 z10 z11 z12 z13
      obtain ⟨ct1, ct2⟩ := ctr_0 (f := (fun r => spc (spN ns nl np ml nk nw pl fa fb sl pp pm ki fr tg wh bw rs sn fl qw r))) k
      have hC0 := hC
      obtain ⟨u1, u2, u3, a, b, c, lo, hi, f1, f2, rfl⟩ := hC
      refine h_iload dX12_highest_40 rfl ?_
      refine h_aload_n dX12_highest_42 rfl ?_
      refine h_getI dX12_highest_43 f_X12_110_10 rfl hnp ?_
      refine h_icmpge (tgt := 119) dX12_highest_46 rfl (fun c_46 => ?_) (fun c_46 => ?_)
      · rw [nI_leI (by omega) (by omega)] at c_46
        refine h_iload_n dX12_highest_119 rfl ?_
        refine h_ifeq (tgt := 127) dX12_highest_120 rfl (fun c_120 => ?_) (fun c_120 => ?_)
        · rw [show (0 : Int32) = nI 0 from rfl, nI_eq (by omega) (by omega)] at c_120
          refine h_lconst (v := 1) dX12_highest_127 rfl ?_
          refine h_lstore dX12_highest_128 (Nat.le_of_ble_eq_true rfl) ?_
          refine h_iconst dX12_highest_130 ci_0 ?_
          refine h_istore dX12_highest_131 (Nat.le_of_ble_eq_true rfl) ?_
          have ek : np = k := by omega
          subst ek
          have hno := ct1.mp (by omega)
          have hOW := sp_OW (fl := fl) hw ⟨hn8, hm2, hn24, hpW, hsW⟩ (fun _ _ _ => rW_le hL) hno
          exact L2 p q _ hp hsq hC0 hF hOW h01 (hO (w01 h01) p q hxp hp hsq hno _ hC0) (np + 1) 0 (by omega) (by omega) _ _ _ _ _ _ _ _
        · rw [show (0 : Int32) = nI 0 from rfl, nI_eq (by omega) (by omega)] at c_120
          refine h_ldc2 dX12_highest_123 k6_113 ?_
          refine h_lreturn dX12_highest_126 rfl ?_
          have ek : np = k := by omega
          subst ek
          exact h4 (w01 h01) p q hxp hp hsq (fun z => c_120 (ct1.mpr z)) _ hC0
      · rw [nI_leI (by omega) (by omega)] at c_46
        refine h_aload_n dX12_highest_49 rfl ?_
        refine h_iload dX12_highest_50 rfl ?_
        refine h_cV1 dX12_highest_52 k6_74 oVX12_noSpan rfl rfl ?_
        refine r_noSpan (I := (rM (upA (upA (upA I 93 u1) 94 u2) 95 u3) a b c lo hi f1 f2)) (p := k) hG (by omega) (fun a2 b2 c2 lo2 hi2 g1 g2 hLv2 y2 => ?_)
        refine h_istore dX12_highest_55 (Nat.le_of_ble_eq_true rfl) ?_
        refine h_iload_n dX12_highest_57 rfl ?_
        refine h_ifne (tgt := 68) dX12_highest_58 rfl (fun c_58 => ?_) (fun c_58 => ?_)
        · rw [show (0 : Int32) = nI 0 from rfl, nI_eq (by omega) (by omega)] at c_58
          refine h_iconst dX12_highest_68 ci_1 ?_
          refine h_goto (tgt := 73) dX12_highest_69 rfl ?_
          refine h_istore_n dX12_highest_73 (Nat.le_of_ble_eq_true rfl) ?_
          refine h_aload_n dX12_highest_74 rfl ?_
          refine h_getR dX12_highest_75 f_X12_46_10 rfl rfl ?_
          refine h_iload dX12_highest_78 rfl ?_
          refine h_iload dX12_highest_80 rfl ?_
          refine h_ifne (tgt := 89) dX12_highest_82 rfl (fun c_82 => ?_) (fun c_82 => ?_)
          · refine h_iconst dX12_highest_89 ci_0 ?_
            refine h_zastN (j := k) dX12_highest_90 rfl rfl (by omega) rfl ?_
            refine h_aload_n dX12_highest_91 rfl ?_
            refine h_getR dX12_highest_92 f_X12_40_10 rfl rfl ?_
            refine h_iload dX12_highest_95 rfl ?_
            refine h_aload_n dX12_highest_97 rfl ?_
            refine h_getI dX12_highest_98 f_X12_200_10 rfl rfl ?_
            refine h_iastN (j := k) dX12_highest_101 rfl rfl (by omega) rfl ?_
            refine h_aload_n dX12_highest_102 rfl ?_
            refine h_getR dX12_highest_103 f_X12_43_10 rfl rfl ?_
            refine h_iload dX12_highest_106 rfl ?_
            refine h_aload_n dX12_highest_108 rfl ?_
            refine h_getI dX12_highest_109 f_X12_203_10 rfl rfl ?_
            refine h_iastN (j := k) dX12_highest_112 rfl rfl (by omega) rfl ?_
            refine h_iinc (v := nI (k + 1)) dX12_highest_113 rfl (nI_1 _) (Nat.le_of_ble_eq_true rfl) ?_
            refine h_goto (tgt := 40) dX12_highest_116 rfl ?_
            have h3 := ih (k + 1) _ (HR_st (k := k) (a := (nI 0 : Int32).toInt8.toInt32) (b := lo2) (c := hi2) hC0 (RO_m _ a2 b2 c2 lo2 hi2 g1 g2)) (fun r hr => by
              by_cases e : r = k
              · subst e
                refine ⟨?_, ?_⟩
                · show spR _ (upd _ r lo2 r) (upd _ r hi2 r)
                  rw [upd_s, upd_s]
                  exact y2
                · show upd _ r _ r = _
                  rw [upd_s]
                  exact (if_neg c_82).symm
              · obtain ⟨w1, w2⟩ := hF r (by omega)
                refine ⟨?_, ?_⟩
                · show spR _ (upd _ k lo2 r) (upd _ k hi2 r)
                  rw [upd_n _ _ e, upd_n _ _ e]
                  exact w1
                · show upd _ k _ r = _
                  rw [upd_n _ _ e]
                  exact w2) (by omega) (by omega)
            rw [ctr_k (f := (fun r => spc (spN ns nl np ml nk nw pl fa fb sl pp pm ki fr tg wh bw rs sn fl qw r))) (k := k) c_58] at h3
            exact h3 _ _ _ _ _ _ _ _ _
          · refine h_iconst dX12_highest_85 ci_1 ?_
            refine h_goto (tgt := 90) dX12_highest_86 rfl ?_
            refine h_zastN (j := k) dX12_highest_90 rfl rfl (by omega) rfl ?_
            refine h_aload_n dX12_highest_91 rfl ?_
            refine h_getR dX12_highest_92 f_X12_40_10 rfl rfl ?_
            refine h_iload dX12_highest_95 rfl ?_
            refine h_aload_n dX12_highest_97 rfl ?_
            refine h_getI dX12_highest_98 f_X12_200_10 rfl rfl ?_
            refine h_iastN (j := k) dX12_highest_101 rfl rfl (by omega) rfl ?_
            refine h_aload_n dX12_highest_102 rfl ?_
            refine h_getR dX12_highest_103 f_X12_43_10 rfl rfl ?_
            refine h_iload dX12_highest_106 rfl ?_
            refine h_aload_n dX12_highest_108 rfl ?_
            refine h_getI dX12_highest_109 f_X12_203_10 rfl rfl ?_
            refine h_iastN (j := k) dX12_highest_112 rfl rfl (by omega) rfl ?_
            refine h_iinc (v := nI (k + 1)) dX12_highest_113 rfl (nI_1 _) (Nat.le_of_ble_eq_true rfl) ?_
            refine h_goto (tgt := 40) dX12_highest_116 rfl ?_
            have h3 := ih (k + 1) _ (HR_st (k := k) (a := (nI 1 : Int32).toInt8.toInt32) (b := lo2) (c := hi2) hC0 (RO_m _ a2 b2 c2 lo2 hi2 g1 g2)) (fun r hr => by
              by_cases e : r = k
              · subst e
                refine ⟨?_, ?_⟩
                · show spR _ (upd _ r lo2 r) (upd _ r hi2 r)
                  rw [upd_s, upd_s]
                  exact y2
                · show upd _ r _ r = _
                  rw [upd_s]
                  exact (if_pos c_82).symm
              · obtain ⟨w1, w2⟩ := hF r (by omega)
                refine ⟨?_, ?_⟩
                · show spR _ (upd _ k lo2 r) (upd _ k hi2 r)
                  rw [upd_n _ _ e, upd_n _ _ e]
                  exact w1
                · show upd _ k _ r = _
                  rw [upd_n _ _ e]
                  exact w2) (by omega) (by omega)
            rw [ctr_k (f := (fun r => spc (spN ns nl np ml nk nw pl fa fb sl pp pm ki fr tg wh bw rs sn fl qw r))) (k := k) c_58] at h3
            exact h3 _ _ _ _ _ _ _ _ _
        · rw [show (0 : Int32) = nI 0 from rfl, nI_eq (by omega) (by omega)] at c_58
          refine h_iload dX12_highest_61 rfl ?_
          refine h_bipush dX12_highest_63 cb_m4 ?_
          refine h_icmpne (tgt := 72) dX12_highest_65 rfl (fun c_65 => ?_) (fun c_65 => ?_)
          · refine h_iconst dX12_highest_72 ci_0 ?_
            refine h_istore_n dX12_highest_73 (Nat.le_of_ble_eq_true rfl) ?_
            refine h_aload_n dX12_highest_74 rfl ?_
            refine h_getR dX12_highest_75 f_X12_46_10 rfl rfl ?_
            refine h_iload dX12_highest_78 rfl ?_
            refine h_iload dX12_highest_80 rfl ?_
            refine h_ifne (tgt := 89) dX12_highest_82 rfl (fun c_82 => ?_) (fun c_82 => ?_)
            · refine h_iconst dX12_highest_89 ci_0 ?_
              refine h_zastN (j := k) dX12_highest_90 rfl rfl (by omega) rfl ?_
              refine h_aload_n dX12_highest_91 rfl ?_
              refine h_getR dX12_highest_92 f_X12_40_10 rfl rfl ?_
              refine h_iload dX12_highest_95 rfl ?_
              refine h_aload_n dX12_highest_97 rfl ?_
              refine h_getI dX12_highest_98 f_X12_200_10 rfl rfl ?_
              refine h_iastN (j := k) dX12_highest_101 rfl rfl (by omega) rfl ?_
              refine h_aload_n dX12_highest_102 rfl ?_
              refine h_getR dX12_highest_103 f_X12_43_10 rfl rfl ?_
              refine h_iload dX12_highest_106 rfl ?_
              refine h_aload_n dX12_highest_108 rfl ?_
              refine h_getI dX12_highest_109 f_X12_203_10 rfl rfl ?_
              refine h_iastN (j := k) dX12_highest_112 rfl rfl (by omega) rfl ?_
              refine h_iinc (v := nI (k + 1)) dX12_highest_113 rfl (nI_1 _) (Nat.le_of_ble_eq_true rfl) ?_
              refine h_goto (tgt := 40) dX12_highest_116 rfl ?_
              have h3 := ih (k + 1) _ (HR_st (k := k) (a := (nI 0 : Int32).toInt8.toInt32) (b := lo2) (c := hi2) hC0 (RO_m _ a2 b2 c2 lo2 hi2 g1 g2)) (fun r hr => by
                by_cases e : r = k
                · subst e
                  refine ⟨?_, ?_⟩
                  · show spR _ (upd _ r lo2 r) (upd _ r hi2 r)
                    rw [upd_s, upd_s]
                    exact y2
                  · show upd _ r _ r = _
                    rw [upd_s]
                    exact (if_neg c_82).symm
                · obtain ⟨w1, w2⟩ := hF r (by omega)
                  refine ⟨?_, ?_⟩
                  · show spR _ (upd _ k lo2 r) (upd _ k hi2 r)
                    rw [upd_n _ _ e, upd_n _ _ e]
                    exact w1
                  · show upd _ k _ r = _
                    rw [upd_n _ _ e]
                    exact w2) (by omega) (by omega)
              rw [(ctr_q (f := (fun r => spc (spN ns nl np ml nk nw pl fa fb sl pp pm ki fr tg wh bw rs sn fl qw r))) (k := k) c_65).trans (show ctr (fun r => spc (spN ns nl np ml nk nw pl fa fb sl pp pm ki fr tg wh bw rs sn fl qw r)) k = 0 by omega)] at h3
              exact h3 _ _ _ _ _ _ _ _ _
            · refine h_iconst dX12_highest_85 ci_1 ?_
              refine h_goto (tgt := 90) dX12_highest_86 rfl ?_
              refine h_zastN (j := k) dX12_highest_90 rfl rfl (by omega) rfl ?_
              refine h_aload_n dX12_highest_91 rfl ?_
              refine h_getR dX12_highest_92 f_X12_40_10 rfl rfl ?_
              refine h_iload dX12_highest_95 rfl ?_
              refine h_aload_n dX12_highest_97 rfl ?_
              refine h_getI dX12_highest_98 f_X12_200_10 rfl rfl ?_
              refine h_iastN (j := k) dX12_highest_101 rfl rfl (by omega) rfl ?_
              refine h_aload_n dX12_highest_102 rfl ?_
              refine h_getR dX12_highest_103 f_X12_43_10 rfl rfl ?_
              refine h_iload dX12_highest_106 rfl ?_
              refine h_aload_n dX12_highest_108 rfl ?_
              refine h_getI dX12_highest_109 f_X12_203_10 rfl rfl ?_
              refine h_iastN (j := k) dX12_highest_112 rfl rfl (by omega) rfl ?_
              refine h_iinc (v := nI (k + 1)) dX12_highest_113 rfl (nI_1 _) (Nat.le_of_ble_eq_true rfl) ?_
              refine h_goto (tgt := 40) dX12_highest_116 rfl ?_
              have h3 := ih (k + 1) _ (HR_st (k := k) (a := (nI 1 : Int32).toInt8.toInt32) (b := lo2) (c := hi2) hC0 (RO_m _ a2 b2 c2 lo2 hi2 g1 g2)) (fun r hr => by
                by_cases e : r = k
                · subst e
                  refine ⟨?_, ?_⟩
                  · show spR _ (upd _ r lo2 r) (upd _ r hi2 r)
                    rw [upd_s, upd_s]
                    exact y2
                  · show upd _ r _ r = _
                    rw [upd_s]
                    exact (if_pos c_82).symm
                · obtain ⟨w1, w2⟩ := hF r (by omega)
                  refine ⟨?_, ?_⟩
                  · show spR _ (upd _ k lo2 r) (upd _ k hi2 r)
                    rw [upd_n _ _ e, upd_n _ _ e]
                    exact w1
                  · show upd _ k _ r = _
                    rw [upd_n _ _ e]
                    exact w2) (by omega) (by omega)
              rw [(ctr_q (f := (fun r => spc (spN ns nl np ml nk nw pl fa fb sl pp pm ki fr tg wh bw rs sn fl qw r))) (k := k) c_65).trans (show ctr (fun r => spc (spN ns nl np ml nk nw pl fa fb sl pp pm ki fr tg wh bw rs sn fl qw r)) k = 0 by omega)] at h3
              exact h3 _ _ _ _ _ _ _ _ _
          · refine h_iconst dX12_highest_68 ci_1 ?_
            refine h_goto (tgt := 73) dX12_highest_69 rfl ?_
            refine h_istore_n dX12_highest_73 (Nat.le_of_ble_eq_true rfl) ?_
            refine h_aload_n dX12_highest_74 rfl ?_
            refine h_getR dX12_highest_75 f_X12_46_10 rfl rfl ?_
            refine h_iload dX12_highest_78 rfl ?_
            refine h_iload dX12_highest_80 rfl ?_
            refine h_ifne (tgt := 89) dX12_highest_82 rfl (fun c_82 => ?_) (fun c_82 => ?_)
            · refine h_iconst dX12_highest_89 ci_0 ?_
              refine h_zastN (j := k) dX12_highest_90 rfl rfl (by omega) rfl ?_
              refine h_aload_n dX12_highest_91 rfl ?_
              refine h_getR dX12_highest_92 f_X12_40_10 rfl rfl ?_
              refine h_iload dX12_highest_95 rfl ?_
              refine h_aload_n dX12_highest_97 rfl ?_
              refine h_getI dX12_highest_98 f_X12_200_10 rfl rfl ?_
              refine h_iastN (j := k) dX12_highest_101 rfl rfl (by omega) rfl ?_
              refine h_aload_n dX12_highest_102 rfl ?_
              refine h_getR dX12_highest_103 f_X12_43_10 rfl rfl ?_
              refine h_iload dX12_highest_106 rfl ?_
              refine h_aload_n dX12_highest_108 rfl ?_
              refine h_getI dX12_highest_109 f_X12_203_10 rfl rfl ?_
              refine h_iastN (j := k) dX12_highest_112 rfl rfl (by omega) rfl ?_
              refine h_iinc (v := nI (k + 1)) dX12_highest_113 rfl (nI_1 _) (Nat.le_of_ble_eq_true rfl) ?_
              refine h_goto (tgt := 40) dX12_highest_116 rfl ?_
              have h3 := ih (k + 1) _ (HR_st (k := k) (a := (nI 0 : Int32).toInt8.toInt32) (b := lo2) (c := hi2) hC0 (RO_m _ a2 b2 c2 lo2 hi2 g1 g2)) (fun r hr => by
                by_cases e : r = k
                · subst e
                  refine ⟨?_, ?_⟩
                  · show spR _ (upd _ r lo2 r) (upd _ r hi2 r)
                    rw [upd_s, upd_s]
                    exact y2
                  · show upd _ r _ r = _
                    rw [upd_s]
                    exact (if_neg c_82).symm
                · obtain ⟨w1, w2⟩ := hF r (by omega)
                  refine ⟨?_, ?_⟩
                  · show spR _ (upd _ k lo2 r) (upd _ k hi2 r)
                    rw [upd_n _ _ e, upd_n _ _ e]
                    exact w1
                  · show upd _ k _ r = _
                    rw [upd_n _ _ e]
                    exact w2) (by omega) (by omega)
              rw [ctr_p (f := (fun r => spc (spN ns nl np ml nk nw pl fa fb sl pp pm ki fr tg wh bw rs sn fl qw r))) (k := k) c_65] at h3
              exact h3 _ _ _ _ _ _ _ _ _
            · refine h_iconst dX12_highest_85 ci_1 ?_
              refine h_goto (tgt := 90) dX12_highest_86 rfl ?_
              refine h_zastN (j := k) dX12_highest_90 rfl rfl (by omega) rfl ?_
              refine h_aload_n dX12_highest_91 rfl ?_
              refine h_getR dX12_highest_92 f_X12_40_10 rfl rfl ?_
              refine h_iload dX12_highest_95 rfl ?_
              refine h_aload_n dX12_highest_97 rfl ?_
              refine h_getI dX12_highest_98 f_X12_200_10 rfl rfl ?_
              refine h_iastN (j := k) dX12_highest_101 rfl rfl (by omega) rfl ?_
              refine h_aload_n dX12_highest_102 rfl ?_
              refine h_getR dX12_highest_103 f_X12_43_10 rfl rfl ?_
              refine h_iload dX12_highest_106 rfl ?_
              refine h_aload_n dX12_highest_108 rfl ?_
              refine h_getI dX12_highest_109 f_X12_203_10 rfl rfl ?_
              refine h_iastN (j := k) dX12_highest_112 rfl rfl (by omega) rfl ?_
              refine h_iinc (v := nI (k + 1)) dX12_highest_113 rfl (nI_1 _) (Nat.le_of_ble_eq_true rfl) ?_
              refine h_goto (tgt := 40) dX12_highest_116 rfl ?_
              have h3 := ih (k + 1) _ (HR_st (k := k) (a := (nI 1 : Int32).toInt8.toInt32) (b := lo2) (c := hi2) hC0 (RO_m _ a2 b2 c2 lo2 hi2 g1 g2)) (fun r hr => by
                by_cases e : r = k
                · subst e
                  refine ⟨?_, ?_⟩
                  · show spR _ (upd _ r lo2 r) (upd _ r hi2 r)
                    rw [upd_s, upd_s]
                    exact y2
                  · show upd _ r _ r = _
                    rw [upd_s]
                    exact (if_pos c_82).symm
                · obtain ⟨w1, w2⟩ := hF r (by omega)
                  refine ⟨?_, ?_⟩
                  · show spR _ (upd _ k lo2 r) (upd _ k hi2 r)
                    rw [upd_n _ _ e, upd_n _ _ e]
                    exact w1
                  · show upd _ k _ r = _
                    rw [upd_n _ _ e]
                    exact w2) (by omega) (by omega)
              rw [ctr_p (f := (fun r => spc (spN ns nl np ml nk nw pl fa fb sl pp pm ki fr tg wh bw rs sn fl qw r))) (k := k) c_65] at h3
              exact h3 _ _ _ _ _ _ _ _ _
  have L0 : (w = nI 0 ∨ w = nI 1) ∨ ¬ (nI 0 ≤ w ∧ w ≤ nI 1) := by
    by_cases h : nI 0 ≤ w ∧ w ≤ nI 1
    · obtain ⟨n, rfl, h1, h2⟩ := rng_ex (by omega) (by omega) h.1 h.2
      rcases (show n = 0 ∨ n = 1 by omega) with rfl | rfl
      · exact .inl (.inl rfl)
      · exact .inl (.inr rfl)
    · exact .inr h
  show HV l mX12_highest (dp + 7) 0 0 0 [some (.ref 82), some (.int x), some (.int w), none, none, none, none, none, none, none, none, none, none, none] [] hSH I J (hRR lt tx) Q
  refine h_aload_n dX12_highest_0 rfl ?_
  refine h_iload_n dX12_highest_1 rfl ?_
  refine h_cV1 dX12_highest_2 k5_238 oVX12_isPoint rfl rfl ?_
  refine r_isPoint (n := np) hnp (by omega) (fun b1 => ?_) (fun b1 => ?_)
  · refine h_ifeq (tgt := 17) dX12_highest_5 rfl (fun c => absurd c (by decide)) (fun _ => ?_)
    refine h_iload_n dX12_highest_8 rfl ?_
    refine h_iconst dX12_highest_9 ci_0 ?_
    refine h_iconst dX12_highest_10 ci_1 ?_
    refine h_cS3 dX12_highest_11 k5_172 oSX12_in rfl ?_
    refine c_X12_in (fun b2 => ?_) (fun b2 => ?_)
    · obtain ⟨p, hp, rfl⟩ := b1
      have h01 := L0.resolve_right (fun z => z b2)
      refine h_ifne (tgt := 21) dX12_highest_14 rfl (fun _ => ?_) (fun c => absurd c (by decide))
      refine h_aload_n dX12_highest_21 rfl ?_
      refine h_iload_n dX12_highest_22 rfl ?_
      refine h_cV1 dX12_highest_23 k6_74 oVX12_noSpan rfl rfl ?_
      refine r_noSpan (p := p) hG hp (fun a b c lo hi g1 g2 hLv y1 => ?_)
      refine h_bipush dX12_highest_26 cb_m3 ?_
      refine h_icmpne (tgt := 35) dX12_highest_28 rfl (fun c_28 => ?_) (fun c_28 => ?_)
      · obtain ⟨q, hsq⟩ : ∃ q, spN ns nl np ml nk nw pl fa fb sl pp pm ki fr tg wh bw rs sn fl qw p = some q := by
          cases e : spN ns nl np ml nk nw pl fa fb sl pp pm ki fr tg wh bw rs sn fl qw p with
          | none => exact absurd (spc_3.mpr e) c_28
          | some q => exact ⟨q, rfl⟩
        refine h_iconst dX12_highest_35 ci_0 ?_
        refine h_istore_n dX12_highest_36 (Nat.le_of_ble_eq_true rfl) ?_
        refine h_iconst dX12_highest_37 ci_0 ?_
        refine h_istore dX12_highest_38 (Nat.le_of_ble_eq_true rfl) ?_
        exact L1 p q hp rfl hsq h01 (np + 1) 0 _ (HR_id (RO_m I a b c lo hi g1 g2)) (fun r hr => by omega) (by omega) (by omega) _ _ _ _ _ _ _ _ _
      · refine h_ldc2 dX12_highest_31 k6_112 ?_
        refine h_lreturn dX12_highest_34 rfl ?_
        exact h3 (w01 h01) p rfl hp (spc_3.mp c_28) _ (HR_id (RO_m I a b c lo hi g1 g2))
    · refine h_ifne (tgt := 21) dX12_highest_14 rfl (fun c => absurd (by decide) c) (fun _ => ?_)
      refine h_ldc2 dX12_highest_17 k6_111 ?_
      refine h_lreturn dX12_highest_20 rfl ?_
      exact hB (fun z => b2 z.2)
  · refine h_ifeq (tgt := 17) dX12_highest_5 rfl (fun _ => ?_) (fun c => absurd (by decide) c)
    refine h_ldc2 dX12_highest_17 k6_111 ?_
    refine h_lreturn dX12_highest_20 rfl ?_
    exact hB (fun z => b1 z.1)
theorem c_item2 {l : Launch} {dp : Nat} {so : Nat → Int32} {si : Nat → Nat} {it : Nat → Nat → Int64} {I : hI} {J : hJ} {lt tx : Option Nat} {x w y : Int32} {Q : hQ} (hS : cSh I J so si it) (hB : ¬ (sh4 x ∧ nI 0 ≤ w ∧ w ≤ nI 3) → Q (some (.int (-1))) hSH I J (hRR lt tx)) (hR : (nI 0 ≤ w ∧ w ≤ nI 3) → ∀ s, x = nI s → s < 4 → ¬ rfs (so s) w = 0 → Q (some (.int (rfs (so s) w))) hSH I J (hRR lt tx)) (h12 : (nI 0 ≤ w ∧ w ≤ nI 3) → ∀ s, x = nI s → s < 4 → rfs (so s) w = 0 → ¬ isIx y (si s) → Q (some (.int (-12))) hSH I J (hRR lt tx)) (hO : (nI 0 ≤ w ∧ w ≤ nI 3) → ∀ s i, x = nI s → y = nI i → s < 4 → i < si s → rfs (so s) w = 0 → Q (some (.int ((it s i).toInt32))) hSH I J (hRR lt tx)) : HC l mX11_item (dp + 2) 0 0 [.ref 0, .int x, .int w, .int y] hSH I J (hRR lt tx) Q := by
  refine HC.of (by decide +kernel) rfl (Nat.le_of_ble_eq_true rfl) ?_
  show HV l mX11_item (dp + 2) 0 0 0 [some (.ref 0), some (.int x), some (.int w), some (.int y), none] [] hSH I J (hRR lt tx) Q
  refine h_iload_n dX11_item_0 rfl ?_
  refine h_cS1 dX11_item_1 k4_46 oSX11_isSheet rfl ?_
  refine c_X11_isSheet (fun b1 => ?_) (fun b1 => ?_)
  · refine h_ifeq (tgt := 16) dX11_item_4 rfl (fun c => absurd c (by decide)) (fun _ => ?_)
    refine h_iload_n dX11_item_7 rfl ?_
    refine h_iconst dX11_item_8 ci_0 ?_
    refine h_iconst dX11_item_9 ci_3 ?_
    refine h_cS3 dX11_item_10 k2_154 oSX11_within rfl ?_
    refine c_X11_within (fun b3 => ?_) (fun b3 => ?_)
    · obtain ⟨s, rfl, -, hs3⟩ := rng_ex (by omega) (by omega) b1.1 b1.2
      obtain ⟨w1, w2, w3, w4, w5⟩ := hS s (by omega)
      refine h_ifne (tgt := 18) dX11_item_13 rfl (fun _ => ?_) (fun c => absurd c (by decide))
      refine h_aload_n dX11_item_18 rfl ?_
      refine h_iload_n dX11_item_19 rfl ?_
      refine h_iload_n dX11_item_20 rfl ?_
      refine h_cV2 dX11_item_21 k4_60 oVX11_refusalOfRow rfl rfl ?_
      refine c_refusal hS (by omega) ?_
      refine h_istore dX11_item_24 (Nat.le_of_ble_eq_true rfl) ?_
      refine h_iload dX11_item_26 rfl ?_
      refine h_ifeq (tgt := 34) dX11_item_28 rfl (fun c_28 => ?_) (fun c_28 => ?_)
      · refine h_iload_n dX11_item_34 rfl ?_
        refine h_iconst dX11_item_35 ci_0 ?_
        refine h_aload_n dX11_item_36 rfl ?_
        refine h_getR dX11_item_37 f_X11_57_9 rfl rfl ?_
        refine h_iload_n dX11_item_40 rfl ?_
        refine h_ialdN (j := s) dX11_item_41 rfl rfl (by omega) rfl w2 ?_
        refine h_iconst dX11_item_42 ci_1 ?_
        refine h_isub dX11_item_43 ?_
        refine h_cS3 dX11_item_44 k2_154 oSX11_within rfl ?_
        refine c_X11_within (fun b2 => ?_) (fun b2 => ?_)
        · obtain ⟨i, hi, rfl⟩ := (isIx_iff (by omega)).mp b2
          refine h_ifne (tgt := 53) dX11_item_47 rfl (fun _ => ?_) (fun c => absurd c (by decide))
          refine h_aload_n dX11_item_53 rfl ?_
          refine h_getR dX11_item_54 f_X11_60_9 rfl rfl ?_
          refine h_iload_n dX11_item_57 rfl ?_
          refine h_bipush dX11_item_58 cb_40 ?_
          refine h_imulN dX11_item_60 ?_
          refine h_iload_n dX11_item_61 rfl ?_
          refine h_iaddN dX11_item_62 ?_
          refine h_laldN (j := 40 * s + i) dX11_item_63 rfl (by rw [Nat.mul_comm]) (by omega) rfl (w5 i hi) ?_
          refine h_l2i dX11_item_64 ?_
          refine h_ireturn dX11_item_65 rfl ?_
          exact hO b3 s i rfl rfl (by omega) hi c_28
        · refine h_ifne (tgt := 53) dX11_item_47 rfl (fun c => absurd (by decide) c) (fun _ => ?_)
          refine h_bipush dX11_item_50 cb_m12 ?_
          refine h_ireturn dX11_item_52 rfl ?_
          exact h12 b3 s rfl (by omega) c_28 (fun z => b2 ((isIx_iff (by omega)).mpr z))
      · refine h_iload dX11_item_31 rfl ?_
        refine h_ireturn dX11_item_33 rfl ?_
        exact hR b3 s rfl (by omega) c_28
    · refine h_ifne (tgt := 18) dX11_item_13 rfl (fun c => absurd (by decide) c) (fun _ => ?_)
      refine h_iconst dX11_item_16 ci_m1 ?_
      refine h_ireturn dX11_item_17 rfl ?_
      exact hB (fun z => b3 z.2)
  · refine h_ifeq (tgt := 16) dX11_item_4 rfl (fun _ => ?_) (fun c => absurd (by decide) c)
    refine h_iconst dX11_item_16 ci_m1 ?_
    refine h_ireturn dX11_item_17 rfl ?_
    exact hB (fun z => b1 z.1)
theorem r_item2 {l : Launch} {dp : Nat} {so : Nat → Int32} {si : Nat → Nat} {it : Nat → Nat → Int64} {I : hI} {J : hJ} {lt tx : Option Nat} {x w y : Int32} {Q : hQ} (hS : rSh I J so si it) (hB : ¬ (sh4 x ∧ nI 0 ≤ w ∧ w ≤ nI 3) → Q (some (.int (-1))) hSH I J (hRR lt tx)) (hR : (nI 0 ≤ w ∧ w ≤ nI 3) → ∀ s, x = nI s → s < 4 → ¬ rfs (so s) w = 0 → Q (some (.int (rfs (so s) w))) hSH I J (hRR lt tx)) (h12 : (nI 0 ≤ w ∧ w ≤ nI 3) → ∀ s, x = nI s → s < 4 → rfs (so s) w = 0 → ¬ isIx y (si s) → Q (some (.int (-12))) hSH I J (hRR lt tx)) (hO : (nI 0 ≤ w ∧ w ≤ nI 3) → ∀ s i, x = nI s → y = nI i → s < 4 → i < si s → rfs (so s) w = 0 → Q (some (.int ((it s i).toInt32))) hSH I J (hRR lt tx)) : HC l mX12_item (dp + 2) 0 0 [.ref 82, .int x, .int w, .int y] hSH I J (hRR lt tx) Q := by
  refine HC.of (by decide +kernel) rfl (Nat.le_of_ble_eq_true rfl) ?_
  show HV l mX12_item (dp + 2) 0 0 0 [some (.ref 82), some (.int x), some (.int w), some (.int y), none] [] hSH I J (hRR lt tx) Q
  refine h_iload_n dX12_item_0 rfl ?_
  refine h_cS1 dX12_item_1 k6_233 oSX12_isShelf rfl ?_
  refine c_X12_isShelf (fun b1 => ?_) (fun b1 => ?_)
  · refine h_ifeq (tgt := 16) dX12_item_4 rfl (fun c => absurd c (by decide)) (fun _ => ?_)
    refine h_iload_n dX12_item_7 rfl ?_
    refine h_iconst dX12_item_8 ci_0 ?_
    refine h_iconst dX12_item_9 ci_3 ?_
    refine h_cS3 dX12_item_10 k5_172 oSX12_in rfl ?_
    refine c_X12_in (fun b3 => ?_) (fun b3 => ?_)
    · obtain ⟨s, rfl, -, hs3⟩ := rng_ex (by omega) (by omega) b1.1 b1.2
      obtain ⟨w1, w2, w3, w4, w5⟩ := hS s (by omega)
      refine h_ifne (tgt := 18) dX12_item_13 rfl (fun _ => ?_) (fun c => absurd c (by decide))
      refine h_aload_n dX12_item_18 rfl ?_
      refine h_iload_n dX12_item_19 rfl ?_
      refine h_iload_n dX12_item_20 rfl ?_
      refine h_cV2 dX12_item_21 k7_4 oVX12_lacksSort rfl rfl ?_
      refine r_refusal hS (by omega) ?_
      refine h_istore dX12_item_24 (Nat.le_of_ble_eq_true rfl) ?_
      refine h_iload dX12_item_26 rfl ?_
      refine h_ifeq (tgt := 34) dX12_item_28 rfl (fun c_28 => ?_) (fun c_28 => ?_)
      · refine h_iload_n dX12_item_34 rfl ?_
        refine h_iconst dX12_item_35 ci_0 ?_
        refine h_aload_n dX12_item_36 rfl ?_
        refine h_getR dX12_item_37 f_X12_77_10 rfl rfl ?_
        refine h_iload_n dX12_item_40 rfl ?_
        refine h_ialdN (j := s) dX12_item_41 rfl rfl (by omega) rfl w2 ?_
        refine h_iconst dX12_item_42 ci_1 ?_
        refine h_isub dX12_item_43 ?_
        refine h_cS3 dX12_item_44 k5_172 oSX12_in rfl ?_
        refine c_X12_in (fun b2 => ?_) (fun b2 => ?_)
        · obtain ⟨i, hi, rfl⟩ := (isIx_iff (by omega)).mp b2
          refine h_ifeq (tgt := 65) dX12_item_47 rfl (fun c => absurd c (by decide)) (fun _ => ?_)
          refine h_aload_n dX12_item_50 rfl ?_
          refine h_getR dX12_item_51 f_X12_80_10 rfl rfl ?_
          refine h_bipush dX12_item_54 cb_40 ?_
          refine h_iload_n dX12_item_56 rfl ?_
          refine h_imulN dX12_item_57 ?_
          refine h_iload_n dX12_item_58 rfl ?_
          refine h_iaddN dX12_item_59 ?_
          refine h_laldN (j := 40 * s + i) dX12_item_60 rfl rfl (by omega) rfl (w5 i hi) ?_
          refine h_l2i dX12_item_61 ?_
          refine h_goto (tgt := 67) dX12_item_62 rfl ?_
          refine h_ireturn dX12_item_67 rfl ?_
          exact hO b3 s i rfl rfl (by omega) hi c_28
        · refine h_ifeq (tgt := 65) dX12_item_47 rfl (fun _ => ?_) (fun c => absurd (by decide) c)
          refine h_bipush dX12_item_65 cb_m12 ?_
          refine h_ireturn dX12_item_67 rfl ?_
          exact h12 b3 s rfl (by omega) c_28 (fun z => b2 ((isIx_iff (by omega)).mpr z))
      · refine h_iload dX12_item_31 rfl ?_
        refine h_ireturn dX12_item_33 rfl ?_
        exact hR b3 s rfl (by omega) c_28
    · refine h_ifne (tgt := 18) dX12_item_13 rfl (fun c => absurd (by decide) c) (fun _ => ?_)
      refine h_iconst dX12_item_16 ci_m1 ?_
      refine h_ireturn dX12_item_17 rfl ?_
      exact hB (fun z => b3 z.2)
  · refine h_ifeq (tgt := 16) dX12_item_4 rfl (fun _ => ?_) (fun c => absurd (by decide) c)
    refine h_iconst dX12_item_16 ci_m1 ?_
    refine h_ireturn dX12_item_17 rfl ?_
    exact hB (fun z => b1 z.1)
