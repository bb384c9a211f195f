theorem r_act10 {l : Launch} {dp : Nat} {ns nl np ml nk nw : Nat} {pl fa fb sl pp pm ki fr tg wh bw : Nat → Nat} {rs sn : Nat → Int32} {fl : Nat → Bool} {qw : Nat → Nat → Nat → Nat → Bool} {I : hI} {J : hJ} {lt tx : Option Nat} {sk : Nat → Nat} {sm sz : Nat → Int32} {s : Nat} {i : Nat} {z : Int32} {Q : hQ} (hG : rG I ns nl np ml nk nw pl fa fb sl pp pm ki fr tg wh bw rs sn fl qw) (hH : rH I sk sm sz) (hs : s < 4) (hi : i < nk) (e0 : sk s = 0) (e9 : sm s = nI i) (ek : ki i = 1) (hQ : ∀ I', AR I I' → I' 82 48 = nI 1 → (∀ i, i < 1 → I' 110 i = nI (List.getD [10] i 0)) → Q (some (.int ((z + (sn i))))) hSH I' J (hRR lt tx))  : HC l mX12_act (dp + 6) 0 0 [.ref 82, .int (nI s), .int (nI 0), .int z] hSH I J (hRR lt tx) Q := by
  refine HC.of (by decide +kernel) rfl (Nat.le_of_ble_eq_true rfl) ?_
  show HV l mX12_act (dp + 6) 0 0 0 [some (.ref 82), some (.int (nI s)), some (.int (nI 0)), some (.int z), none] [] hSH I J (hRR lt tx) Q
  obtain ⟨hN, hw, ⟨hnp, hml, hnk, hpt, hsi⟩, ⟨hn8, hm2, hn24, hpW, hsW⟩, hL⟩ := id hG
  obtain ⟨hns, hnl, hpl, hlg⟩ := id hN
  obtain ⟨hn6, hl12, hW, hp99, hr99⟩ := id hw
  obtain ⟨w1, w2, w3, w4⟩ := hH s hs
  refine h_aload_n dX12_act_0 rfl ?_
  refine h_iconst dX12_act_1 ci_0 ?_
  refine h_putI dX12_act_2 f_X12_361_10 p_X12_10_48 (fun h => by cases h) rfl ?_
  refine h_iload_n dX12_act_5 rfl ?_
  refine h_cS1 dX12_act_6 k6_233 oSX12_isShelf rfl ?_
  refine c_X12_isShelf (fun b1 => ?_) (fun b1 => ?_)
  · refine h_ifeq (tgt := 35) dX12_act_9 rfl (fun c => absurd c (by decide)) (fun _ => ?_)
    refine h_iload_n dX12_act_12 rfl ?_
    refine h_iconst dX12_act_13 ci_0 ?_
    refine h_iconst dX12_act_14 ci_3 ?_
    refine h_cS3 dX12_act_15 k5_172 oSX12_in rfl ?_
    refine c_X12_in (fun b2 => ?_) (fun b2 => ?_)
    · refine h_ifeq (tgt := 35) dX12_act_18 rfl (fun c => absurd c (by decide)) (fun _ => ?_)
      refine h_aload_n dX12_act_21 rfl ?_
      refine h_iload_n dX12_act_22 rfl ?_
      refine h_cV1 dX12_act_23 k7_25 oVX12_kindOn rfl rfl ?_
      refine r_kindA (I := (upI I 82 48 (nI 0))) (k := 1) hG hH hs (.inr ⟨by omega, by omega, i, hi, e0, e9, ek, rfl, rfl⟩) ?_
      refine h_iconst dX12_act_26 ci_1 ?_
      refine h_bipush dX12_act_27 cb_6 ?_
      refine h_cS3 dX12_act_29 k5_172 oSX12_in rfl ?_
      refine c_X12_in (fun b3 => ?_) (fun b3 => ?_)
      · refine h_ifne (tgt := 37) dX12_act_32 rfl (fun _ => ?_) (fun c => absurd c (by decide))
        refine h_aload_n dX12_act_37 rfl ?_
        refine h_aload_n dX12_act_38 rfl ?_
        refine h_iload_n dX12_act_39 rfl ?_
        refine h_cV1 dX12_act_40 k7_25 oVX12_kindOn rfl rfl ?_
        refine r_kindA (I := (upI I 82 48 (nI 0))) (k := 1) hG hH hs (.inr ⟨by omega, by omega, i, hi, e0, e9, ek, rfl, rfl⟩) ?_
        refine h_putI dX12_act_43 f_X12_364_10 p_X12_10_44 (fun h => by cases h) rfl ?_
        refine h_aload_n dX12_act_46 rfl ?_
        refine h_aload_n dX12_act_47 rfl ?_
        refine h_getR dX12_act_48 f_X12_87_10 rfl rfl ?_
        refine h_iload_n dX12_act_51 rfl ?_
        refine h_ialdN (j := s) dX12_act_52 rfl rfl (by omega) rfl ((w3 (by omega)).trans e9) ?_
        refine h_putI dX12_act_53 f_X12_373_10 p_X12_10_45 (fun h => by cases h) rfl ?_
        refine h_aload_n dX12_act_56 rfl ?_
        refine h_aload_n dX12_act_57 rfl ?_
        refine h_getI dX12_act_58 f_X12_364_10 rfl (show _ = nI 1 from rfl) ?_
        refine h_bipush dX12_act_61 cb_6 ?_
        refine h_icmpne (tgt := 82) dX12_act_63 rfl (fun _ => ?_) (fun c => absurd c (by decide))
        refine h_aload_n dX12_act_82 rfl ?_
        refine h_getR dX12_act_83 f_X12_19_10 rfl rfl ?_
        refine h_bipush dX12_act_86 cb_7 ?_
        refine h_aload_n dX12_act_88 rfl ?_
        refine h_getI dX12_act_89 f_X12_373_10 rfl (show _ = nI i from rfl) ?_
        refine h_imulN dX12_act_92 ?_
        refine h_iconst dX12_act_93 ci_3 ?_
        refine h_iaddN dX12_act_94 ?_
        refine h_ialdN (j := (7 * i) + 3) dX12_act_95 rfl rfl (by omega) rfl (hsi i (by omega)).2.2.2.1 ?_
        refine h_putI dX12_act_96 f_X12_370_10 p_X12_10_46 (fun h => by cases h) rfl ?_
        refine h_aload_n dX12_act_99 rfl ?_
        refine h_iconst dX12_act_100 ci_0 ?_
        refine h_putZ dX12_act_101 f_X12_382_10 p_X12_10_49 (fun h => by cases h) rfl (by decide) ?_
        refine h_iload_n dX12_act_104 rfl ?_
        refine h_ifne (tgt := 116) dX12_act_105 rfl (fun c => absurd (by decide) c) (fun _ => ?_)
        refine h_aload_n dX12_act_108 rfl ?_
        refine h_iload_n dX12_act_109 rfl ?_
        refine h_cV1 dX12_act_110 k7_36 oVX12_seesIt rfl rfl ?_
        refine r1_X12_seesIt (n := nI i) (a := sn i) (j := 0) rfl rfl rfl rfl (by omega) ?_
        refine h_goto (tgt := 147) dX12_act_113 rfl ?_
        refine h_istore dX12_act_147 (Nat.le_of_ble_eq_true rfl) ?_
        refine h_aload_n dX12_act_149 rfl ?_
        refine h_getZ dX12_act_150 f_X12_382_10 rfl (show _ = nI 0 from ap_n (by decide) (by decide) rfl) ?_
        refine h_ifeq (tgt := 161) dX12_act_153 rfl (fun _ => ?_) (fun c => absurd (by decide) c)
        refine h_iload dX12_act_161 rfl ?_
        refine h_ireturn dX12_act_163 rfl ?_
        exact hQ _ (AR_iff.mpr ⟨fun x h110 h82 => by simp [upI, h110, h82, ap_o h110 h82], fun j q44 q45 q46 q48 q49 => by
          have e : ∀ I0 : hI, ap I0 110 82 48 0 [10] 82 j = I0 82 j := fun I0 => ap_n (by decide) q48 rfl
          simp [upI, upd, e, q44, q45, q46, q48, q49]⟩) (ap_c0 (by decide) rfl rfl) (fun i0 hi => ap_g0 (by decide) hi)
      · exact absurd ⟨by decide, by decide⟩ b3
    · exact absurd ⟨by decide, by decide⟩ b2
  · exact absurd ⟨by rw [nI_leI (by omega) (by omega)]; omega, by rw [nI_leI (by omega) (by omega)]; omega⟩ b1
theorem r_act11 {l : Launch} {dp : Nat} {ns nl np ml nk nw : Nat} {pl fa fb sl pp pm ki fr tg wh bw : Nat → Nat} {rs sn : Nat → Int32} {fl : Nat → Bool} {qw : Nat → Nat → Nat → Nat → Bool} {I : hI} {J : hJ} {lt tx : Option Nat} {sk : Nat → Nat} {sm sz : Nat → Int32} {s : Nat} {i : Nat} {z : Int32} {Q : hQ} (hG : rG I ns nl np ml nk nw pl fa fb sl pp pm ki fr tg wh bw rs sn fl qw) (hH : rH I sk sm sz) (hs : s < 4) (hi : i < nk) (e0 : sk s = 0) (e9 : sm s = nI i) (ek : ki i = 1) (hQ : ∀ I', AR I I' → I' 82 48 = nI 3 → (∀ i, i < 3 → I' 110 i = nI (List.getD [20, 11, 10] i 0)) → Q (some (.int (((z + (sn i)) * nI 2 + nI 7)))) hSH I' J (hRR lt tx))  : HC l mX12_act (dp + 6) 0 0 [.ref 82, .int (nI s), .int (nI 1), .int z] hSH I J (hRR lt tx) Q := by
  refine HC.of (by decide +kernel) rfl (Nat.le_of_ble_eq_true rfl) ?_
  show HV l mX12_act (dp + 6) 0 0 0 [some (.ref 82), some (.int (nI s)), some (.int (nI 1)), some (.int z), none] [] hSH I J (hRR lt tx) Q
  obtain ⟨hN, hw, ⟨hnp, hml, hnk, hpt, hsi⟩, ⟨hn8, hm2, hn24, hpW, hsW⟩, hL⟩ := id hG
  obtain ⟨hns, hnl, hpl, hlg⟩ := id hN
  obtain ⟨hn6, hl12, hW, hp99, hr99⟩ := id hw
  obtain ⟨w1, w2, w3, w4⟩ := hH s hs
  refine h_aload_n dX12_act_0 rfl ?_
  refine h_iconst dX12_act_1 ci_0 ?_
  refine h_putI dX12_act_2 f_X12_361_10 p_X12_10_48 (fun h => by cases h) rfl ?_
  refine h_iload_n dX12_act_5 rfl ?_
  refine h_cS1 dX12_act_6 k6_233 oSX12_isShelf rfl ?_
  refine c_X12_isShelf (fun b1 => ?_) (fun b1 => ?_)
  · refine h_ifeq (tgt := 35) dX12_act_9 rfl (fun c => absurd c (by decide)) (fun _ => ?_)
    refine h_iload_n dX12_act_12 rfl ?_
    refine h_iconst dX12_act_13 ci_0 ?_
    refine h_iconst dX12_act_14 ci_3 ?_
    refine h_cS3 dX12_act_15 k5_172 oSX12_in rfl ?_
    refine c_X12_in (fun b2 => ?_) (fun b2 => ?_)
    · refine h_ifeq (tgt := 35) dX12_act_18 rfl (fun c => absurd c (by decide)) (fun _ => ?_)
      refine h_aload_n dX12_act_21 rfl ?_
      refine h_iload_n dX12_act_22 rfl ?_
      refine h_cV1 dX12_act_23 k7_25 oVX12_kindOn rfl rfl ?_
      refine r_kindA (I := (upI I 82 48 (nI 0))) (k := 1) hG hH hs (.inr ⟨by omega, by omega, i, hi, e0, e9, ek, rfl, rfl⟩) ?_
      refine h_iconst dX12_act_26 ci_1 ?_
      refine h_bipush dX12_act_27 cb_6 ?_
      refine h_cS3 dX12_act_29 k5_172 oSX12_in rfl ?_
      refine c_X12_in (fun b3 => ?_) (fun b3 => ?_)
      · refine h_ifne (tgt := 37) dX12_act_32 rfl (fun _ => ?_) (fun c => absurd c (by decide))
        refine h_aload_n dX12_act_37 rfl ?_
        refine h_aload_n dX12_act_38 rfl ?_
        refine h_iload_n dX12_act_39 rfl ?_
        refine h_cV1 dX12_act_40 k7_25 oVX12_kindOn rfl rfl ?_
        refine r_kindA (I := (upI I 82 48 (nI 0))) (k := 1) hG hH hs (.inr ⟨by omega, by omega, i, hi, e0, e9, ek, rfl, rfl⟩) ?_
        refine h_putI dX12_act_43 f_X12_364_10 p_X12_10_44 (fun h => by cases h) rfl ?_
        refine h_aload_n dX12_act_46 rfl ?_
        refine h_aload_n dX12_act_47 rfl ?_
        refine h_getR dX12_act_48 f_X12_87_10 rfl rfl ?_
        refine h_iload_n dX12_act_51 rfl ?_
        refine h_ialdN (j := s) dX12_act_52 rfl rfl (by omega) rfl ((w3 (by omega)).trans e9) ?_
        refine h_putI dX12_act_53 f_X12_373_10 p_X12_10_45 (fun h => by cases h) rfl ?_
        refine h_aload_n dX12_act_56 rfl ?_
        refine h_aload_n dX12_act_57 rfl ?_
        refine h_getI dX12_act_58 f_X12_364_10 rfl (show _ = nI 1 from rfl) ?_
        refine h_bipush dX12_act_61 cb_6 ?_
        refine h_icmpne (tgt := 82) dX12_act_63 rfl (fun _ => ?_) (fun c => absurd c (by decide))
        refine h_aload_n dX12_act_82 rfl ?_
        refine h_getR dX12_act_83 f_X12_19_10 rfl rfl ?_
        refine h_bipush dX12_act_86 cb_7 ?_
        refine h_aload_n dX12_act_88 rfl ?_
        refine h_getI dX12_act_89 f_X12_373_10 rfl (show _ = nI i from rfl) ?_
        refine h_imulN dX12_act_92 ?_
        refine h_iconst dX12_act_93 ci_3 ?_
        refine h_iaddN dX12_act_94 ?_
        refine h_ialdN (j := (7 * i) + 3) dX12_act_95 rfl rfl (by omega) rfl (hsi i (by omega)).2.2.2.1 ?_
        refine h_putI dX12_act_96 f_X12_370_10 p_X12_10_46 (fun h => by cases h) rfl ?_
        refine h_aload_n dX12_act_99 rfl ?_
        refine h_iconst dX12_act_100 ci_0 ?_
        refine h_putZ dX12_act_101 f_X12_382_10 p_X12_10_49 (fun h => by cases h) rfl (by decide) ?_
        refine h_iload_n dX12_act_104 rfl ?_
        refine h_ifne (tgt := 116) dX12_act_105 rfl (fun _ => ?_) (fun c => absurd c (by decide))
        refine h_iload_n dX12_act_116 rfl ?_
        refine h_iconst dX12_act_117 ci_1 ?_
        refine h_icmpne (tgt := 129) dX12_act_118 rfl (fun c => absurd (by decide) c) (fun _ => ?_)
        refine h_aload_n dX12_act_121 rfl ?_
        refine h_iload_n dX12_act_122 rfl ?_
        refine h_cV1 dX12_act_123 k7_44 oVX12_bendsIt rfl rfl ?_
        refine r1_X12_bendsIt (n := nI i) (a := sn i) (j := 0) rfl rfl rfl rfl (by omega) ?_
        refine h_goto (tgt := 147) dX12_act_126 rfl ?_
        refine h_istore dX12_act_147 (Nat.le_of_ble_eq_true rfl) ?_
        refine h_aload_n dX12_act_149 rfl ?_
        refine h_getZ dX12_act_150 f_X12_382_10 rfl (show _ = nI 0 from ap_n (by decide) (by decide) rfl) ?_
        refine h_ifeq (tgt := 161) dX12_act_153 rfl (fun _ => ?_) (fun c => absurd (by decide) c)
        refine h_iload dX12_act_161 rfl ?_
        refine h_ireturn dX12_act_163 rfl ?_
        exact hQ _ (AR_iff.mpr ⟨fun x h110 h82 => by simp [upI, h110, h82, ap_o h110 h82], fun j q44 q45 q46 q48 q49 => by
          have e : ∀ I0 : hI, ap I0 110 82 48 0 [20, 11, 10] 82 j = I0 82 j := fun I0 => ap_n (by decide) q48 rfl
          simp [upI, upd, e, q44, q45, q46, q48, q49]⟩) (ap_c0 (by decide) rfl rfl) (fun i0 hi => ap_g0 (by decide) hi)
      · exact absurd ⟨by decide, by decide⟩ b3
    · exact absurd ⟨by decide, by decide⟩ b2
  · exact absurd ⟨by rw [nI_leI (by omega) (by omega)]; omega, by rw [nI_leI (by omega) (by omega)]; omega⟩ b1
theorem r_act12 {l : Launch} {dp : Nat} {ns nl np ml nk nw : Nat} {pl fa fb sl pp pm ki fr tg wh bw : Nat → Nat} {rs sn : Nat → Int32} {fl : Nat → Bool} {qw : Nat → Nat → Nat → Nat → Bool} {I : hI} {J : hJ} {lt tx : Option Nat} {sk : Nat → Nat} {sm sz : Nat → Int32} {s : Nat} {i : Nat} {z : Int32} {Q : hQ} (hG : rG I ns nl np ml nk nw pl fa fb sl pp pm ki fr tg wh bw rs sn fl qw) (hH : rH I sk sm sz) (hs : s < 4) (hi : i < nk) (e0 : sk s = 0) (e9 : sm s = nI i) (ek : ki i = 1) (hQ : ∀ I', AR I I' → I' 82 48 = nI 1 → (∀ i, i < 1 → I' 110 i = nI (List.getD [12] i 0)) → Q (some (.int (cif (sn i = nI i) (-15) (z / ((sn i) - (nI i)))))) hSH I' J (hRR lt tx))  : HC l mX12_act (dp + 6) 0 0 [.ref 82, .int (nI s), .int (nI 2), .int z] hSH I J (hRR lt tx) Q := by
  refine HC.of (by decide +kernel) rfl (Nat.le_of_ble_eq_true rfl) ?_
  show HV l mX12_act (dp + 6) 0 0 0 [some (.ref 82), some (.int (nI s)), some (.int (nI 2)), some (.int z), none] [] hSH I J (hRR lt tx) Q
  obtain ⟨hN, hw, ⟨hnp, hml, hnk, hpt, hsi⟩, ⟨hn8, hm2, hn24, hpW, hsW⟩, hL⟩ := id hG
  obtain ⟨hns, hnl, hpl, hlg⟩ := id hN
  obtain ⟨hn6, hl12, hW, hp99, hr99⟩ := id hw
  obtain ⟨w1, w2, w3, w4⟩ := hH s hs
  refine h_aload_n dX12_act_0 rfl ?_
  refine h_iconst dX12_act_1 ci_0 ?_
  refine h_putI dX12_act_2 f_X12_361_10 p_X12_10_48 (fun h => by cases h) rfl ?_
  refine h_iload_n dX12_act_5 rfl ?_
  refine h_cS1 dX12_act_6 k6_233 oSX12_isShelf rfl ?_
  refine c_X12_isShelf (fun b1 => ?_) (fun b1 => ?_)
  · refine h_ifeq (tgt := 35) dX12_act_9 rfl (fun c => absurd c (by decide)) (fun _ => ?_)
    refine h_iload_n dX12_act_12 rfl ?_
    refine h_iconst dX12_act_13 ci_0 ?_
    refine h_iconst dX12_act_14 ci_3 ?_
    refine h_cS3 dX12_act_15 k5_172 oSX12_in rfl ?_
    refine c_X12_in (fun b2 => ?_) (fun b2 => ?_)
    · refine h_ifeq (tgt := 35) dX12_act_18 rfl (fun c => absurd c (by decide)) (fun _ => ?_)
      refine h_aload_n dX12_act_21 rfl ?_
      refine h_iload_n dX12_act_22 rfl ?_
      refine h_cV1 dX12_act_23 k7_25 oVX12_kindOn rfl rfl ?_
      refine r_kindA (I := (upI I 82 48 (nI 0))) (k := 1) hG hH hs (.inr ⟨by omega, by omega, i, hi, e0, e9, ek, rfl, rfl⟩) ?_
      refine h_iconst dX12_act_26 ci_1 ?_
      refine h_bipush dX12_act_27 cb_6 ?_
      refine h_cS3 dX12_act_29 k5_172 oSX12_in rfl ?_
      refine c_X12_in (fun b3 => ?_) (fun b3 => ?_)
      · refine h_ifne (tgt := 37) dX12_act_32 rfl (fun _ => ?_) (fun c => absurd c (by decide))
        refine h_aload_n dX12_act_37 rfl ?_
        refine h_aload_n dX12_act_38 rfl ?_
        refine h_iload_n dX12_act_39 rfl ?_
        refine h_cV1 dX12_act_40 k7_25 oVX12_kindOn rfl rfl ?_
        refine r_kindA (I := (upI I 82 48 (nI 0))) (k := 1) hG hH hs (.inr ⟨by omega, by omega, i, hi, e0, e9, ek, rfl, rfl⟩) ?_
        refine h_putI dX12_act_43 f_X12_364_10 p_X12_10_44 (fun h => by cases h) rfl ?_
        refine h_aload_n dX12_act_46 rfl ?_
        refine h_aload_n dX12_act_47 rfl ?_
        refine h_getR dX12_act_48 f_X12_87_10 rfl rfl ?_
        refine h_iload_n dX12_act_51 rfl ?_
        refine h_ialdN (j := s) dX12_act_52 rfl rfl (by omega) rfl ((w3 (by omega)).trans e9) ?_
        refine h_putI dX12_act_53 f_X12_373_10 p_X12_10_45 (fun h => by cases h) rfl ?_
        refine h_aload_n dX12_act_56 rfl ?_
        refine h_aload_n dX12_act_57 rfl ?_
        refine h_getI dX12_act_58 f_X12_364_10 rfl (show _ = nI 1 from rfl) ?_
        refine h_bipush dX12_act_61 cb_6 ?_
        refine h_icmpne (tgt := 82) dX12_act_63 rfl (fun _ => ?_) (fun c => absurd c (by decide))
        refine h_aload_n dX12_act_82 rfl ?_
        refine h_getR dX12_act_83 f_X12_19_10 rfl rfl ?_
        refine h_bipush dX12_act_86 cb_7 ?_
        refine h_aload_n dX12_act_88 rfl ?_
        refine h_getI dX12_act_89 f_X12_373_10 rfl (show _ = nI i from rfl) ?_
        refine h_imulN dX12_act_92 ?_
        refine h_iconst dX12_act_93 ci_3 ?_
        refine h_iaddN dX12_act_94 ?_
        refine h_ialdN (j := (7 * i) + 3) dX12_act_95 rfl rfl (by omega) rfl (hsi i (by omega)).2.2.2.1 ?_
        refine h_putI dX12_act_96 f_X12_370_10 p_X12_10_46 (fun h => by cases h) rfl ?_
        refine h_aload_n dX12_act_99 rfl ?_
        refine h_iconst dX12_act_100 ci_0 ?_
        refine h_putZ dX12_act_101 f_X12_382_10 p_X12_10_49 (fun h => by cases h) rfl (by decide) ?_
        refine h_iload_n dX12_act_104 rfl ?_
        refine h_ifne (tgt := 116) dX12_act_105 rfl (fun _ => ?_) (fun c => absurd c (by decide))
        refine h_iload_n dX12_act_116 rfl ?_
        refine h_iconst dX12_act_117 ci_1 ?_
        refine h_icmpne (tgt := 129) dX12_act_118 rfl (fun _ => ?_) (fun c => absurd c (by decide))
        refine h_iload_n dX12_act_129 rfl ?_
        refine h_iconst dX12_act_130 ci_2 ?_
        refine h_icmpne (tgt := 142) dX12_act_131 rfl (fun c => absurd (by decide) c) (fun _ => ?_)
        refine h_aload_n dX12_act_134 rfl ?_
        refine h_iload_n dX12_act_135 rfl ?_
        refine h_cV1 dX12_act_136 k7_52 oVX12_leansIt rfl rfl ?_
        refine r1_X12_leansIt (n := nI i) (a := sn i) (j := 0) rfl rfl rfl rfl (by omega) (fun v0 hz => ?_) (fun hz => ?_)
        · refine h_goto (tgt := 147) dX12_act_139 rfl ?_
          refine h_istore dX12_act_147 (Nat.le_of_ble_eq_true rfl) ?_
          refine h_aload_n dX12_act_149 rfl ?_
          refine h_getZ dX12_act_150 f_X12_382_10 rfl (show _ = nI 1 from rfl) ?_
          refine h_ifeq (tgt := 161) dX12_act_153 rfl (fun c => absurd c (by decide)) (fun _ => ?_)
          refine h_bipush dX12_act_156 cb_m15 ?_
          refine h_goto (tgt := 163) dX12_act_158 rfl ?_
          refine h_ireturn dX12_act_163 rfl ?_
          rw [cif_t hz] at hQ
          exact hQ _ (AR_iff.mpr ⟨fun x h110 h82 => by simp [upI, h110, h82, ap_o h110 h82], fun j q44 q45 q46 q48 q49 => by
            have e : ∀ I0 : hI, ap I0 110 82 48 0 [12] 82 j = I0 82 j := fun I0 => ap_n (by decide) q48 rfl
            simp [upI, upd, e, q44, q45, q46, q48, q49]⟩) ((upI_f (by decide)).trans (ap_c0 (by decide) rfl rfl)) (fun i0 hi => (congrFun (upI_n _ _ _ (by decide)) i0).trans (ap_g0 (by decide) hi))
        · refine h_goto (tgt := 147) dX12_act_139 rfl ?_
          refine h_istore dX12_act_147 (Nat.le_of_ble_eq_true rfl) ?_
          refine h_aload_n dX12_act_149 rfl ?_
          refine h_getZ dX12_act_150 f_X12_382_10 rfl (show _ = nI 0 from ap_n (by decide) (by decide) rfl) ?_
          refine h_ifeq (tgt := 161) dX12_act_153 rfl (fun _ => ?_) (fun c => absurd (by decide) c)
          refine h_iload dX12_act_161 rfl ?_
          refine h_ireturn dX12_act_163 rfl ?_
          rw [cif_f hz] at hQ
          exact hQ _ (AR_iff.mpr ⟨fun x h110 h82 => by simp [upI, h110, h82, ap_o h110 h82], fun j q44 q45 q46 q48 q49 => by
            have e : ∀ I0 : hI, ap I0 110 82 48 0 [12] 82 j = I0 82 j := fun I0 => ap_n (by decide) q48 rfl
            simp [upI, upd, e, q44, q45, q46, q48, q49]⟩) (ap_c0 (by decide) rfl rfl) (fun i0 hi => ap_g0 (by decide) hi)
      · exact absurd ⟨by decide, by decide⟩ b3
    · exact absurd ⟨by decide, by decide⟩ b2
  · exact absurd ⟨by rw [nI_leI (by omega) (by omega)]; omega, by rw [nI_leI (by omega) (by omega)]; omega⟩ b1
theorem r_act13 {l : Launch} {dp : Nat} {ns nl np ml nk nw : Nat} {pl fa fb sl pp pm ki fr tg wh bw : Nat → Nat} {rs sn : Nat → Int32} {fl : Nat → Bool} {qw : Nat → Nat → Nat → Nat → Bool} {I : hI} {J : hJ} {lt tx : Option Nat} {sk : Nat → Nat} {sm sz : Nat → Int32} {s : Nat} {i : Nat} {z : Int32} {Q : hQ} (hG : rG I ns nl np ml nk nw pl fa fb sl pp pm ki fr tg wh bw rs sn fl qw) (hH : rH I sk sm sz) (hs : s < 4) (hi : i < nk) (e0 : sk s = 0) (e9 : sm s = nI i) (ek : ki i = 1) (hQ : ∀ I', AR I I' → I' 82 48 = nI 4 → (∀ i, i < 4 → I' 110 i = nI (List.getD [13, 20, 11, 10] i 0)) → Q (some (.int ((((z + (sn i)) * nI 2 + nI 7) ^^^ (nI i))))) hSH I' J (hRR lt tx))  : HC l mX12_act (dp + 6) 0 0 [.ref 82, .int (nI s), .int (nI 3), .int z] hSH I J (hRR lt tx) Q := by
  refine HC.of (by decide +kernel) rfl (Nat.le_of_ble_eq_true rfl) ?_
  show HV l mX12_act (dp + 6) 0 0 0 [some (.ref 82), some (.int (nI s)), some (.int (nI 3)), some (.int z), none] [] hSH I J (hRR lt tx) Q
  obtain ⟨hN, hw, ⟨hnp, hml, hnk, hpt, hsi⟩, ⟨hn8, hm2, hn24, hpW, hsW⟩, hL⟩ := id hG
  obtain ⟨hns, hnl, hpl, hlg⟩ := id hN
  obtain ⟨hn6, hl12, hW, hp99, hr99⟩ := id hw
  obtain ⟨w1, w2, w3, w4⟩ := hH s hs
  refine h_aload_n dX12_act_0 rfl ?_
  refine h_iconst dX12_act_1 ci_0 ?_
  refine h_putI dX12_act_2 f_X12_361_10 p_X12_10_48 (fun h => by cases h) rfl ?_
  refine h_iload_n dX12_act_5 rfl ?_
  refine h_cS1 dX12_act_6 k6_233 oSX12_isShelf rfl ?_
  refine c_X12_isShelf (fun b1 => ?_) (fun b1 => ?_)
  · refine h_ifeq (tgt := 35) dX12_act_9 rfl (fun c => absurd c (by decide)) (fun _ => ?_)
    refine h_iload_n dX12_act_12 rfl ?_
    refine h_iconst dX12_act_13 ci_0 ?_
    refine h_iconst dX12_act_14 ci_3 ?_
    refine h_cS3 dX12_act_15 k5_172 oSX12_in rfl ?_
    refine c_X12_in (fun b2 => ?_) (fun b2 => ?_)
    · refine h_ifeq (tgt := 35) dX12_act_18 rfl (fun c => absurd c (by decide)) (fun _ => ?_)
      refine h_aload_n dX12_act_21 rfl ?_
      refine h_iload_n dX12_act_22 rfl ?_
      refine h_cV1 dX12_act_23 k7_25 oVX12_kindOn rfl rfl ?_
      refine r_kindA (I := (upI I 82 48 (nI 0))) (k := 1) hG hH hs (.inr ⟨by omega, by omega, i, hi, e0, e9, ek, rfl, rfl⟩) ?_
      refine h_iconst dX12_act_26 ci_1 ?_
      refine h_bipush dX12_act_27 cb_6 ?_
      refine h_cS3 dX12_act_29 k5_172 oSX12_in rfl ?_
      refine c_X12_in (fun b3 => ?_) (fun b3 => ?_)
      · refine h_ifne (tgt := 37) dX12_act_32 rfl (fun _ => ?_) (fun c => absurd c (by decide))
        refine h_aload_n dX12_act_37 rfl ?_
        refine h_aload_n dX12_act_38 rfl ?_
        refine h_iload_n dX12_act_39 rfl ?_
        refine h_cV1 dX12_act_40 k7_25 oVX12_kindOn rfl rfl ?_
        refine r_kindA (I := (upI I 82 48 (nI 0))) (k := 1) hG hH hs (.inr ⟨by omega, by omega, i, hi, e0, e9, ek, rfl, rfl⟩) ?_
        refine h_putI dX12_act_43 f_X12_364_10 p_X12_10_44 (fun h => by cases h) rfl ?_
        refine h_aload_n dX12_act_46 rfl ?_
        refine h_aload_n dX12_act_47 rfl ?_
        refine h_getR dX12_act_48 f_X12_87_10 rfl rfl ?_
        refine h_iload_n dX12_act_51 rfl ?_
        refine h_ialdN (j := s) dX12_act_52 rfl rfl (by omega) rfl ((w3 (by omega)).trans e9) ?_
        refine h_putI dX12_act_53 f_X12_373_10 p_X12_10_45 (fun h => by cases h) rfl ?_
        refine h_aload_n dX12_act_56 rfl ?_
        refine h_aload_n dX12_act_57 rfl ?_
        refine h_getI dX12_act_58 f_X12_364_10 rfl (show _ = nI 1 from rfl) ?_
        refine h_bipush dX12_act_61 cb_6 ?_
        refine h_icmpne (tgt := 82) dX12_act_63 rfl (fun _ => ?_) (fun c => absurd c (by decide))
        refine h_aload_n dX12_act_82 rfl ?_
        refine h_getR dX12_act_83 f_X12_19_10 rfl rfl ?_
        refine h_bipush dX12_act_86 cb_7 ?_
        refine h_aload_n dX12_act_88 rfl ?_
        refine h_getI dX12_act_89 f_X12_373_10 rfl (show _ = nI i from rfl) ?_
        refine h_imulN dX12_act_92 ?_
        refine h_iconst dX12_act_93 ci_3 ?_
        refine h_iaddN dX12_act_94 ?_
        refine h_ialdN (j := (7 * i) + 3) dX12_act_95 rfl rfl (by omega) rfl (hsi i (by omega)).2.2.2.1 ?_
        refine h_putI dX12_act_96 f_X12_370_10 p_X12_10_46 (fun h => by cases h) rfl ?_
        refine h_aload_n dX12_act_99 rfl ?_
        refine h_iconst dX12_act_100 ci_0 ?_
        refine h_putZ dX12_act_101 f_X12_382_10 p_X12_10_49 (fun h => by cases h) rfl (by decide) ?_
        refine h_iload_n dX12_act_104 rfl ?_
        refine h_ifne (tgt := 116) dX12_act_105 rfl (fun _ => ?_) (fun c => absurd c (by decide))
        refine h_iload_n dX12_act_116 rfl ?_
        refine h_iconst dX12_act_117 ci_1 ?_
        refine h_icmpne (tgt := 129) dX12_act_118 rfl (fun _ => ?_) (fun c => absurd c (by decide))
        refine h_iload_n dX12_act_129 rfl ?_
        refine h_iconst dX12_act_130 ci_2 ?_
        refine h_icmpne (tgt := 142) dX12_act_131 rfl (fun _ => ?_) (fun c => absurd c (by decide))
        refine h_aload_n dX12_act_142 rfl ?_
        refine h_iload_n dX12_act_143 rfl ?_
        refine h_cV1 dX12_act_144 k7_60 oVX12_tellsIt rfl rfl ?_
        refine r1_X12_tellsIt (n := nI i) (a := sn i) (j := 0) rfl rfl rfl rfl (by omega) ?_
        refine h_istore dX12_act_147 (Nat.le_of_ble_eq_true rfl) ?_
        refine h_aload_n dX12_act_149 rfl ?_
        refine h_getZ dX12_act_150 f_X12_382_10 rfl (show _ = nI 0 from ap_n (by decide) (by decide) rfl) ?_
        refine h_ifeq (tgt := 161) dX12_act_153 rfl (fun _ => ?_) (fun c => absurd (by decide) c)
        refine h_iload dX12_act_161 rfl ?_
        refine h_ireturn dX12_act_163 rfl ?_
        exact hQ _ (AR_iff.mpr ⟨fun x h110 h82 => by simp [upI, h110, h82, ap_o h110 h82], fun j q44 q45 q46 q48 q49 => by
          have e : ∀ I0 : hI, ap I0 110 82 48 0 [13, 20, 11, 10] 82 j = I0 82 j := fun I0 => ap_n (by decide) q48 rfl
          simp [upI, upd, e, q44, q45, q46, q48, q49]⟩) (ap_c0 (by decide) rfl rfl) (fun i0 hi => ap_g0 (by decide) hi)
      · exact absurd ⟨by decide, by decide⟩ b3
    · exact absurd ⟨by decide, by decide⟩ b2
  · exact absurd ⟨by rw [nI_leI (by omega) (by omega)]; omega, by rw [nI_leI (by omega) (by omega)]; omega⟩ b1
theorem r_act20 {l : Launch} {dp : Nat} {ns nl np ml nk nw : Nat} {pl fa fb sl pp pm ki fr tg wh bw : Nat → Nat} {rs sn : Nat → Int32} {fl : Nat → Bool} {qw : Nat → Nat → Nat → Nat → Bool} {I : hI} {J : hJ} {lt tx : Option Nat} {sk : Nat → Nat} {sm sz : Nat → Int32} {s : Nat} {i : Nat} {z : Int32} {Q : hQ} (hG : rG I ns nl np ml nk nw pl fa fb sl pp pm ki fr tg wh bw rs sn fl qw) (hH : rH I sk sm sz) (hs : s < 4) (hi : i < nk) (e0 : sk s = 0) (e9 : sm s = nI i) (ek : ki i = 2) (hQ : ∀ I', AR I I' → I' 82 48 = nI 2 → (∀ i, i < 2 → I' 110 i = nI (List.getD [30, 10] i 0)) → Q (some (.int ((z + (sn i) - (nI i))))) hSH I' J (hRR lt tx))  : HC l mX12_act (dp + 6) 0 0 [.ref 82, .int (nI s), .int (nI 0), .int z] hSH I J (hRR lt tx) Q := by
  refine HC.of (by decide +kernel) rfl (Nat.le_of_ble_eq_true rfl) ?_
  show HV l mX12_act (dp + 6) 0 0 0 [some (.ref 82), some (.int (nI s)), some (.int (nI 0)), some (.int z), none] [] hSH I J (hRR lt tx) Q
  obtain ⟨hN, hw, ⟨hnp, hml, hnk, hpt, hsi⟩, ⟨hn8, hm2, hn24, hpW, hsW⟩, hL⟩ := id hG
  obtain ⟨hns, hnl, hpl, hlg⟩ := id hN
  obtain ⟨hn6, hl12, hW, hp99, hr99⟩ := id hw
  obtain ⟨w1, w2, w3, w4⟩ := hH s hs
  refine h_aload_n dX12_act_0 rfl ?_
  refine h_iconst dX12_act_1 ci_0 ?_
  refine h_putI dX12_act_2 f_X12_361_10 p_X12_10_48 (fun h => by cases h) rfl ?_
  refine h_iload_n dX12_act_5 rfl ?_
  refine h_cS1 dX12_act_6 k6_233 oSX12_isShelf rfl ?_
  refine c_X12_isShelf (fun b1 => ?_) (fun b1 => ?_)
  · refine h_ifeq (tgt := 35) dX12_act_9 rfl (fun c => absurd c (by decide)) (fun _ => ?_)
    refine h_iload_n dX12_act_12 rfl ?_
    refine h_iconst dX12_act_13 ci_0 ?_
    refine h_iconst dX12_act_14 ci_3 ?_
    refine h_cS3 dX12_act_15 k5_172 oSX12_in rfl ?_
    refine c_X12_in (fun b2 => ?_) (fun b2 => ?_)
    · refine h_ifeq (tgt := 35) dX12_act_18 rfl (fun c => absurd c (by decide)) (fun _ => ?_)
      refine h_aload_n dX12_act_21 rfl ?_
      refine h_iload_n dX12_act_22 rfl ?_
      refine h_cV1 dX12_act_23 k7_25 oVX12_kindOn rfl rfl ?_
      refine r_kindA (I := (upI I 82 48 (nI 0))) (k := 2) hG hH hs (.inr ⟨by omega, by omega, i, hi, e0, e9, ek, rfl, rfl⟩) ?_
      refine h_iconst dX12_act_26 ci_1 ?_
      refine h_bipush dX12_act_27 cb_6 ?_
      refine h_cS3 dX12_act_29 k5_172 oSX12_in rfl ?_
      refine c_X12_in (fun b3 => ?_) (fun b3 => ?_)
      · refine h_ifne (tgt := 37) dX12_act_32 rfl (fun _ => ?_) (fun c => absurd c (by decide))
        refine h_aload_n dX12_act_37 rfl ?_
        refine h_aload_n dX12_act_38 rfl ?_
        refine h_iload_n dX12_act_39 rfl ?_
        refine h_cV1 dX12_act_40 k7_25 oVX12_kindOn rfl rfl ?_
        refine r_kindA (I := (upI I 82 48 (nI 0))) (k := 2) hG hH hs (.inr ⟨by omega, by omega, i, hi, e0, e9, ek, rfl, rfl⟩) ?_
        refine h_putI dX12_act_43 f_X12_364_10 p_X12_10_44 (fun h => by cases h) rfl ?_
        refine h_aload_n dX12_act_46 rfl ?_
        refine h_aload_n dX12_act_47 rfl ?_
        refine h_getR dX12_act_48 f_X12_87_10 rfl rfl ?_
        refine h_iload_n dX12_act_51 rfl ?_
        refine h_ialdN (j := s) dX12_act_52 rfl rfl (by omega) rfl ((w3 (by omega)).trans e9) ?_
        refine h_putI dX12_act_53 f_X12_373_10 p_X12_10_45 (fun h => by cases h) rfl ?_
        refine h_aload_n dX12_act_56 rfl ?_
        refine h_aload_n dX12_act_57 rfl ?_
        refine h_getI dX12_act_58 f_X12_364_10 rfl (show _ = nI 2 from rfl) ?_
        refine h_bipush dX12_act_61 cb_6 ?_
        refine h_icmpne (tgt := 82) dX12_act_63 rfl (fun _ => ?_) (fun c => absurd c (by decide))
        refine h_aload_n dX12_act_82 rfl ?_
        refine h_getR dX12_act_83 f_X12_19_10 rfl rfl ?_
        refine h_bipush dX12_act_86 cb_7 ?_
        refine h_aload_n dX12_act_88 rfl ?_
        refine h_getI dX12_act_89 f_X12_373_10 rfl (show _ = nI i from rfl) ?_
        refine h_imulN dX12_act_92 ?_
        refine h_iconst dX12_act_93 ci_3 ?_
        refine h_iaddN dX12_act_94 ?_
        refine h_ialdN (j := (7 * i) + 3) dX12_act_95 rfl rfl (by omega) rfl (hsi i (by omega)).2.2.2.1 ?_
        refine h_putI dX12_act_96 f_X12_370_10 p_X12_10_46 (fun h => by cases h) rfl ?_
        refine h_aload_n dX12_act_99 rfl ?_
        refine h_iconst dX12_act_100 ci_0 ?_
        refine h_putZ dX12_act_101 f_X12_382_10 p_X12_10_49 (fun h => by cases h) rfl (by decide) ?_
        refine h_iload_n dX12_act_104 rfl ?_
        refine h_ifne (tgt := 116) dX12_act_105 rfl (fun c => absurd (by decide) c) (fun _ => ?_)
        refine h_aload_n dX12_act_108 rfl ?_
        refine h_iload_n dX12_act_109 rfl ?_
        refine h_cV1 dX12_act_110 k7_36 oVX12_seesIt rfl rfl ?_
        refine r2_X12_seesIt (n := nI i) (a := sn i) (j := 0) rfl rfl rfl rfl (by omega) ?_
        refine h_goto (tgt := 147) dX12_act_113 rfl ?_
        refine h_istore dX12_act_147 (Nat.le_of_ble_eq_true rfl) ?_
        refine h_aload_n dX12_act_149 rfl ?_
        refine h_getZ dX12_act_150 f_X12_382_10 rfl (show _ = nI 0 from ap_n (by decide) (by decide) rfl) ?_
        refine h_ifeq (tgt := 161) dX12_act_153 rfl (fun _ => ?_) (fun c => absurd (by decide) c)
        refine h_iload dX12_act_161 rfl ?_
        refine h_ireturn dX12_act_163 rfl ?_
        exact hQ _ (AR_iff.mpr ⟨fun x h110 h82 => by simp [upI, h110, h82, ap_o h110 h82], fun j q44 q45 q46 q48 q49 => by
          have e : ∀ I0 : hI, ap I0 110 82 48 0 [30, 10] 82 j = I0 82 j := fun I0 => ap_n (by decide) q48 rfl
          simp [upI, upd, e, q44, q45, q46, q48, q49]⟩) (ap_c0 (by decide) rfl rfl) (fun i0 hi => ap_g0 (by decide) hi)
      · exact absurd ⟨by decide, by decide⟩ b3
    · exact absurd ⟨by decide, by decide⟩ b2
  · exact absurd ⟨by rw [nI_leI (by omega) (by omega)]; omega, by rw [nI_leI (by omega) (by omega)]; omega⟩ b1
theorem r_act21 {l : Launch} {dp : Nat} {ns nl np ml nk nw : Nat} {pl fa fb sl pp pm ki fr tg wh bw : Nat → Nat} {rs sn : Nat → Int32} {fl : Nat → Bool} {qw : Nat → Nat → Nat → Nat → Bool} {I : hI} {J : hJ} {lt tx : Option Nat} {sk : Nat → Nat} {sm sz : Nat → Int32} {s : Nat} {i : Nat} {z : Int32} {Q : hQ} (hG : rG I ns nl np ml nk nw pl fa fb sl pp pm ki fr tg wh bw rs sn fl qw) (hH : rH I sk sm sz) (hs : s < 4) (hi : i < nk) (e0 : sk s = 0) (e9 : sm s = nI i) (ek : ki i = 2) (hQ : ∀ I', AR I I' → I' 82 48 = nI 3 → (∀ i, i < 3 → I' 110 i = nI (List.getD [11, 30, 10] i 0)) → Q (some (.int (((z + (sn i) - (nI i)) * nI 2)))) hSH I' J (hRR lt tx))  : HC l mX12_act (dp + 6) 0 0 [.ref 82, .int (nI s), .int (nI 1), .int z] hSH I J (hRR lt tx) Q := by
  refine HC.of (by decide +kernel) rfl (Nat.le_of_ble_eq_true rfl) ?_
  show HV l mX12_act (dp + 6) 0 0 0 [some (.ref 82), some (.int (nI s)), some (.int (nI 1)), some (.int z), none] [] hSH I J (hRR lt tx) Q
  obtain ⟨hN, hw, ⟨hnp, hml, hnk, hpt, hsi⟩, ⟨hn8, hm2, hn24, hpW, hsW⟩, hL⟩ := id hG
  obtain ⟨hns, hnl, hpl, hlg⟩ := id hN
  obtain ⟨hn6, hl12, hW, hp99, hr99⟩ := id hw
  obtain ⟨w1, w2, w3, w4⟩ := hH s hs
  refine h_aload_n dX12_act_0 rfl ?_
  refine h_iconst dX12_act_1 ci_0 ?_
  refine h_putI dX12_act_2 f_X12_361_10 p_X12_10_48 (fun h => by cases h) rfl ?_
  refine h_iload_n dX12_act_5 rfl ?_
  refine h_cS1 dX12_act_6 k6_233 oSX12_isShelf rfl ?_
  refine c_X12_isShelf (fun b1 => ?_) (fun b1 => ?_)
  · refine h_ifeq (tgt := 35) dX12_act_9 rfl (fun c => absurd c (by decide)) (fun _ => ?_)
    refine h_iload_n dX12_act_12 rfl ?_
    refine h_iconst dX12_act_13 ci_0 ?_
    refine h_iconst dX12_act_14 ci_3 ?_
    refine h_cS3 dX12_act_15 k5_172 oSX12_in rfl ?_
    refine c_X12_in (fun b2 => ?_) (fun b2 => ?_)
    · refine h_ifeq (tgt := 35) dX12_act_18 rfl (fun c => absurd c (by decide)) (fun _ => ?_)
      refine h_aload_n dX12_act_21 rfl ?_
      refine h_iload_n dX12_act_22 rfl ?_
      refine h_cV1 dX12_act_23 k7_25 oVX12_kindOn rfl rfl ?_
      refine r_kindA (I := (upI I 82 48 (nI 0))) (k := 2) hG hH hs (.inr ⟨by omega, by omega, i, hi, e0, e9, ek, rfl, rfl⟩) ?_
      refine h_iconst dX12_act_26 ci_1 ?_
      refine h_bipush dX12_act_27 cb_6 ?_
      refine h_cS3 dX12_act_29 k5_172 oSX12_in rfl ?_
      refine c_X12_in (fun b3 => ?_) (fun b3 => ?_)
      · refine h_ifne (tgt := 37) dX12_act_32 rfl (fun _ => ?_) (fun c => absurd c (by decide))
        refine h_aload_n dX12_act_37 rfl ?_
        refine h_aload_n dX12_act_38 rfl ?_
        refine h_iload_n dX12_act_39 rfl ?_
        refine h_cV1 dX12_act_40 k7_25 oVX12_kindOn rfl rfl ?_
        refine r_kindA (I := (upI I 82 48 (nI 0))) (k := 2) hG hH hs (.inr ⟨by omega, by omega, i, hi, e0, e9, ek, rfl, rfl⟩) ?_
        refine h_putI dX12_act_43 f_X12_364_10 p_X12_10_44 (fun h => by cases h) rfl ?_
        refine h_aload_n dX12_act_46 rfl ?_
        refine h_aload_n dX12_act_47 rfl ?_
        refine h_getR dX12_act_48 f_X12_87_10 rfl rfl ?_
        refine h_iload_n dX12_act_51 rfl ?_
        refine h_ialdN (j := s) dX12_act_52 rfl rfl (by omega) rfl ((w3 (by omega)).trans e9) ?_
        refine h_putI dX12_act_53 f_X12_373_10 p_X12_10_45 (fun h => by cases h) rfl ?_
        refine h_aload_n dX12_act_56 rfl ?_
        refine h_aload_n dX12_act_57 rfl ?_
        refine h_getI dX12_act_58 f_X12_364_10 rfl (show _ = nI 2 from rfl) ?_
        refine h_bipush dX12_act_61 cb_6 ?_
        refine h_icmpne (tgt := 82) dX12_act_63 rfl (fun _ => ?_) (fun c => absurd c (by decide))
        refine h_aload_n dX12_act_82 rfl ?_
        refine h_getR dX12_act_83 f_X12_19_10 rfl rfl ?_
        refine h_bipush dX12_act_86 cb_7 ?_
        refine h_aload_n dX12_act_88 rfl ?_
        refine h_getI dX12_act_89 f_X12_373_10 rfl (show _ = nI i from rfl) ?_
        refine h_imulN dX12_act_92 ?_
        refine h_iconst dX12_act_93 ci_3 ?_
        refine h_iaddN dX12_act_94 ?_
        refine h_ialdN (j := (7 * i) + 3) dX12_act_95 rfl rfl (by omega) rfl (hsi i (by omega)).2.2.2.1 ?_
        refine h_putI dX12_act_96 f_X12_370_10 p_X12_10_46 (fun h => by cases h) rfl ?_
        refine h_aload_n dX12_act_99 rfl ?_
        refine h_iconst dX12_act_100 ci_0 ?_
        refine h_putZ dX12_act_101 f_X12_382_10 p_X12_10_49 (fun h => by cases h) rfl (by decide) ?_
        refine h_iload_n dX12_act_104 rfl ?_
        refine h_ifne (tgt := 116) dX12_act_105 rfl (fun _ => ?_) (fun c => absurd c (by decide))
        refine h_iload_n dX12_act_116 rfl ?_
        refine h_iconst dX12_act_117 ci_1 ?_
        refine h_icmpne (tgt := 129) dX12_act_118 rfl (fun c => absurd (by decide) c) (fun _ => ?_)
        refine h_aload_n dX12_act_121 rfl ?_
        refine h_iload_n dX12_act_122 rfl ?_
        refine h_cV1 dX12_act_123 k7_44 oVX12_bendsIt rfl rfl ?_
        refine r2_X12_bendsIt (n := nI i) (a := sn i) (j := 0) rfl rfl rfl rfl (by omega) ?_
        refine h_goto (tgt := 147) dX12_act_126 rfl ?_
        refine h_istore dX12_act_147 (Nat.le_of_ble_eq_true rfl) ?_
        refine h_aload_n dX12_act_149 rfl ?_
        refine h_getZ dX12_act_150 f_X12_382_10 rfl (show _ = nI 0 from ap_n (by decide) (by decide) rfl) ?_
        refine h_ifeq (tgt := 161) dX12_act_153 rfl (fun _ => ?_) (fun c => absurd (by decide) c)
        refine h_iload dX12_act_161 rfl ?_
        refine h_ireturn dX12_act_163 rfl ?_
        exact hQ _ (AR_iff.mpr ⟨fun x h110 h82 => by simp [upI, h110, h82, ap_o h110 h82], fun j q44 q45 q46 q48 q49 => by
          have e : ∀ I0 : hI, ap I0 110 82 48 0 [11, 30, 10] 82 j = I0 82 j := fun I0 => ap_n (by decide) q48 rfl
          simp [upI, upd, e, q44, q45, q46, q48, q49]⟩) (ap_c0 (by decide) rfl rfl) (fun i0 hi => ap_g0 (by decide) hi)
      · exact absurd ⟨by decide, by decide⟩ b3
    · exact absurd ⟨by decide, by decide⟩ b2
  · exact absurd ⟨by rw [nI_leI (by omega) (by omega)]; omega, by rw [nI_leI (by omega) (by omega)]; omega⟩ b1
theorem r_act22 {l : Launch} {dp : Nat} {ns nl np ml nk nw : Nat} {pl fa fb sl pp pm ki fr tg wh bw : Nat → Nat} {rs sn : Nat → Int32} {fl : Nat → Bool} {qw : Nat → Nat → Nat → Nat → Bool} {I : hI} {J : hJ} {lt tx : Option Nat} {sk : Nat → Nat} {sm sz : Nat → Int32} {s : Nat} {i : Nat} {z : Int32} {Q : hQ} (hG : rG I ns nl np ml nk nw pl fa fb sl pp pm ki fr tg wh bw rs sn fl qw) (hH : rH I sk sm sz) (hs : s < 4) (hi : i < nk) (e0 : sk s = 0) (e9 : sm s = nI i) (ek : ki i = 2) (hQ : ∀ I', AR I I' → I' 82 48 = nI 1 → (∀ i, i < 1 → I' 110 i = nI (List.getD [12] i 0)) → Q (some (.int (cif (sn i = nI i) (-15) (z / ((sn i) - (nI i)))))) hSH I' J (hRR lt tx))  : HC l mX12_act (dp + 6) 0 0 [.ref 82, .int (nI s), .int (nI 2), .int z] hSH I J (hRR lt tx) Q := by
  refine HC.of (by decide +kernel) rfl (Nat.le_of_ble_eq_true rfl) ?_
  show HV l mX12_act (dp + 6) 0 0 0 [some (.ref 82), some (.int (nI s)), some (.int (nI 2)), some (.int z), none] [] hSH I J (hRR lt tx) Q
  obtain ⟨hN, hw, ⟨hnp, hml, hnk, hpt, hsi⟩, ⟨hn8, hm2, hn24, hpW, hsW⟩, hL⟩ := id hG
  obtain ⟨hns, hnl, hpl, hlg⟩ := id hN
  obtain ⟨hn6, hl12, hW, hp99, hr99⟩ := id hw
  obtain ⟨w1, w2, w3, w4⟩ := hH s hs
  refine h_aload_n dX12_act_0 rfl ?_
  refine h_iconst dX12_act_1 ci_0 ?_
  refine h_putI dX12_act_2 f_X12_361_10 p_X12_10_48 (fun h => by cases h) rfl ?_
  refine h_iload_n dX12_act_5 rfl ?_
  refine h_cS1 dX12_act_6 k6_233 oSX12_isShelf rfl ?_
  refine c_X12_isShelf (fun b1 => ?_) (fun b1 => ?_)
  · refine h_ifeq (tgt := 35) dX12_act_9 rfl (fun c => absurd c (by decide)) (fun _ => ?_)
    refine h_iload_n dX12_act_12 rfl ?_
    refine h_iconst dX12_act_13 ci_0 ?_
    refine h_iconst dX12_act_14 ci_3 ?_
    refine h_cS3 dX12_act_15 k5_172 oSX12_in rfl ?_
    refine c_X12_in (fun b2 => ?_) (fun b2 => ?_)
    · refine h_ifeq (tgt := 35) dX12_act_18 rfl (fun c => absurd c (by decide)) (fun _ => ?_)
      refine h_aload_n dX12_act_21 rfl ?_
      refine h_iload_n dX12_act_22 rfl ?_
      refine h_cV1 dX12_act_23 k7_25 oVX12_kindOn rfl rfl ?_
      refine r_kindA (I := (upI I 82 48 (nI 0))) (k := 2) hG hH hs (.inr ⟨by omega, by omega, i, hi, e0, e9, ek, rfl, rfl⟩) ?_
      refine h_iconst dX12_act_26 ci_1 ?_
      refine h_bipush dX12_act_27 cb_6 ?_
      refine h_cS3 dX12_act_29 k5_172 oSX12_in rfl ?_
      refine c_X12_in (fun b3 => ?_) (fun b3 => ?_)
      · refine h_ifne (tgt := 37) dX12_act_32 rfl (fun _ => ?_) (fun c => absurd c (by decide))
        refine h_aload_n dX12_act_37 rfl ?_
        refine h_aload_n dX12_act_38 rfl ?_
        refine h_iload_n dX12_act_39 rfl ?_
        refine h_cV1 dX12_act_40 k7_25 oVX12_kindOn rfl rfl ?_
        refine r_kindA (I := (upI I 82 48 (nI 0))) (k := 2) hG hH hs (.inr ⟨by omega, by omega, i, hi, e0, e9, ek, rfl, rfl⟩) ?_
        refine h_putI dX12_act_43 f_X12_364_10 p_X12_10_44 (fun h => by cases h) rfl ?_
        refine h_aload_n dX12_act_46 rfl ?_
        refine h_aload_n dX12_act_47 rfl ?_
        refine h_getR dX12_act_48 f_X12_87_10 rfl rfl ?_
        refine h_iload_n dX12_act_51 rfl ?_
        refine h_ialdN (j := s) dX12_act_52 rfl rfl (by omega) rfl ((w3 (by omega)).trans e9) ?_
        refine h_putI dX12_act_53 f_X12_373_10 p_X12_10_45 (fun h => by cases h) rfl ?_
        refine h_aload_n dX12_act_56 rfl ?_
        refine h_aload_n dX12_act_57 rfl ?_
        refine h_getI dX12_act_58 f_X12_364_10 rfl (show _ = nI 2 from rfl) ?_
        refine h_bipush dX12_act_61 cb_6 ?_
        refine h_icmpne (tgt := 82) dX12_act_63 rfl (fun _ => ?_) (fun c => absurd c (by decide))
        refine h_aload_n dX12_act_82 rfl ?_
        refine h_getR dX12_act_83 f_X12_19_10 rfl rfl ?_
        refine h_bipush dX12_act_86 cb_7 ?_
        refine h_aload_n dX12_act_88 rfl ?_
        refine h_getI dX12_act_89 f_X12_373_10 rfl (show _ = nI i from rfl) ?_
        refine h_imulN dX12_act_92 ?_
        refine h_iconst dX12_act_93 ci_3 ?_
        refine h_iaddN dX12_act_94 ?_
        refine h_ialdN (j := (7 * i) + 3) dX12_act_95 rfl rfl (by omega) rfl (hsi i (by omega)).2.2.2.1 ?_
        refine h_putI dX12_act_96 f_X12_370_10 p_X12_10_46 (fun h => by cases h) rfl ?_
        refine h_aload_n dX12_act_99 rfl ?_
        refine h_iconst dX12_act_100 ci_0 ?_
        refine h_putZ dX12_act_101 f_X12_382_10 p_X12_10_49 (fun h => by cases h) rfl (by decide) ?_
        refine h_iload_n dX12_act_104 rfl ?_
        refine h_ifne (tgt := 116) dX12_act_105 rfl (fun _ => ?_) (fun c => absurd c (by decide))
        refine h_iload_n dX12_act_116 rfl ?_
        refine h_iconst dX12_act_117 ci_1 ?_
        refine h_icmpne (tgt := 129) dX12_act_118 rfl (fun _ => ?_) (fun c => absurd c (by decide))
        refine h_iload_n dX12_act_129 rfl ?_
        refine h_iconst dX12_act_130 ci_2 ?_
        refine h_icmpne (tgt := 142) dX12_act_131 rfl (fun c => absurd (by decide) c) (fun _ => ?_)
        refine h_aload_n dX12_act_134 rfl ?_
        refine h_iload_n dX12_act_135 rfl ?_
        refine h_cV1 dX12_act_136 k7_52 oVX12_leansIt rfl rfl ?_
        refine r2_X12_leansIt (n := nI i) (a := sn i) (j := 0) rfl rfl rfl rfl (by omega) (fun v0 hz => ?_) (fun hz => ?_)
        · refine h_goto (tgt := 147) dX12_act_139 rfl ?_
          refine h_istore dX12_act_147 (Nat.le_of_ble_eq_true rfl) ?_
          refine h_aload_n dX12_act_149 rfl ?_
          refine h_getZ dX12_act_150 f_X12_382_10 rfl (show _ = nI 1 from rfl) ?_
          refine h_ifeq (tgt := 161) dX12_act_153 rfl (fun c => absurd c (by decide)) (fun _ => ?_)
          refine h_bipush dX12_act_156 cb_m15 ?_
          refine h_goto (tgt := 163) dX12_act_158 rfl ?_
          refine h_ireturn dX12_act_163 rfl ?_
          rw [cif_t hz] at hQ
          exact hQ _ (AR_iff.mpr ⟨fun x h110 h82 => by simp [upI, h110, h82, ap_o h110 h82], fun j q44 q45 q46 q48 q49 => by
            have e : ∀ I0 : hI, ap I0 110 82 48 0 [12] 82 j = I0 82 j := fun I0 => ap_n (by decide) q48 rfl
            simp [upI, upd, e, q44, q45, q46, q48, q49]⟩) ((upI_f (by decide)).trans (ap_c0 (by decide) rfl rfl)) (fun i0 hi => (congrFun (upI_n _ _ _ (by decide)) i0).trans (ap_g0 (by decide) hi))
        · refine h_goto (tgt := 147) dX12_act_139 rfl ?_
          refine h_istore dX12_act_147 (Nat.le_of_ble_eq_true rfl) ?_
          refine h_aload_n dX12_act_149 rfl ?_
          refine h_getZ dX12_act_150 f_X12_382_10 rfl (show _ = nI 0 from ap_n (by decide) (by decide) rfl) ?_
          refine h_ifeq (tgt := 161) dX12_act_153 rfl (fun _ => ?_) (fun c => absurd (by decide) c)
          refine h_iload dX12_act_161 rfl ?_
          refine h_ireturn dX12_act_163 rfl ?_
          rw [cif_f hz] at hQ
          exact hQ _ (AR_iff.mpr ⟨fun x h110 h82 => by simp [upI, h110, h82, ap_o h110 h82], fun j q44 q45 q46 q48 q49 => by
            have e : ∀ I0 : hI, ap I0 110 82 48 0 [12] 82 j = I0 82 j := fun I0 => ap_n (by decide) q48 rfl
            simp [upI, upd, e, q44, q45, q46, q48, q49]⟩) (ap_c0 (by decide) rfl rfl) (fun i0 hi => ap_g0 (by decide) hi)
      · exact absurd ⟨by decide, by decide⟩ b3
    · exact absurd ⟨by decide, by decide⟩ b2
  · exact absurd ⟨by rw [nI_leI (by omega) (by omega)]; omega, by rw [nI_leI (by omega) (by omega)]; omega⟩ b1
theorem r_act23 {l : Launch} {dp : Nat} {ns nl np ml nk nw : Nat} {pl fa fb sl pp pm ki fr tg wh bw : Nat → Nat} {rs sn : Nat → Int32} {fl : Nat → Bool} {qw : Nat → Nat → Nat → Nat → Bool} {I : hI} {J : hJ} {lt tx : Option Nat} {sk : Nat → Nat} {sm sz : Nat → Int32} {s : Nat} {i : Nat} {z : Int32} {Q : hQ} (hG : rG I ns nl np ml nk nw pl fa fb sl pp pm ki fr tg wh bw rs sn fl qw) (hH : rH I sk sm sz) (hs : s < 4) (hi : i < nk) (e0 : sk s = 0) (e9 : sm s = nI i) (ek : ki i = 2) (hQ : ∀ I', AR I I' → I' 82 48 = nI 4 → (∀ i, i < 4 → I' 110 i = nI (List.getD [13, 11, 30, 10] i 0)) → Q (some (.int ((((z + (sn i) - (nI i)) * nI 2) ^^^ (nI i))))) hSH I' J (hRR lt tx))  : HC l mX12_act (dp + 6) 0 0 [.ref 82, .int (nI s), .int (nI 3), .int z] hSH I J (hRR lt tx) Q := by
  refine HC.of (by decide +kernel) rfl (Nat.le_of_ble_eq_true rfl) ?_
  show HV l mX12_act (dp + 6) 0 0 0 [some (.ref 82), some (.int (nI s)), some (.int (nI 3)), some (.int z), none] [] hSH I J (hRR lt tx) Q
  obtain ⟨hN, hw, ⟨hnp, hml, hnk, hpt, hsi⟩, ⟨hn8, hm2, hn24, hpW, hsW⟩, hL⟩ := id hG
  obtain ⟨hns, hnl, hpl, hlg⟩ := id hN
  obtain ⟨hn6, hl12, hW, hp99, hr99⟩ := id hw
  obtain ⟨w1, w2, w3, w4⟩ := hH s hs
  refine h_aload_n dX12_act_0 rfl ?_
  refine h_iconst dX12_act_1 ci_0 ?_
  refine h_putI dX12_act_2 f_X12_361_10 p_X12_10_48 (fun h => by cases h) rfl ?_
  refine h_iload_n dX12_act_5 rfl ?_
  refine h_cS1 dX12_act_6 k6_233 oSX12_isShelf rfl ?_
  refine c_X12_isShelf (fun b1 => ?_) (fun b1 => ?_)
  · refine h_ifeq (tgt := 35) dX12_act_9 rfl (fun c => absurd c (by decide)) (fun _ => ?_)
    refine h_iload_n dX12_act_12 rfl ?_
    refine h_iconst dX12_act_13 ci_0 ?_
    refine h_iconst dX12_act_14 ci_3 ?_
    refine h_cS3 dX12_act_15 k5_172 oSX12_in rfl ?_
    refine c_X12_in (fun b2 => ?_) (fun b2 => ?_)
    · refine h_ifeq (tgt := 35) dX12_act_18 rfl (fun c => absurd c (by decide)) (fun _ => ?_)
      refine h_aload_n dX12_act_21 rfl ?_
      refine h_iload_n dX12_act_22 rfl ?_
      refine h_cV1 dX12_act_23 k7_25 oVX12_kindOn rfl rfl ?_
      refine r_kindA (I := (upI I 82 48 (nI 0))) (k := 2) hG hH hs (.inr ⟨by omega, by omega, i, hi, e0, e9, ek, rfl, rfl⟩) ?_
      refine h_iconst dX12_act_26 ci_1 ?_
      refine h_bipush dX12_act_27 cb_6 ?_
      refine h_cS3 dX12_act_29 k5_172 oSX12_in rfl ?_
      refine c_X12_in (fun b3 => ?_) (fun b3 => ?_)
      · refine h_ifne (tgt := 37) dX12_act_32 rfl (fun _ => ?_) (fun c => absurd c (by decide))
        refine h_aload_n dX12_act_37 rfl ?_
        refine h_aload_n dX12_act_38 rfl ?_
        refine h_iload_n dX12_act_39 rfl ?_
        refine h_cV1 dX12_act_40 k7_25 oVX12_kindOn rfl rfl ?_
        refine r_kindA (I := (upI I 82 48 (nI 0))) (k := 2) hG hH hs (.inr ⟨by omega, by omega, i, hi, e0, e9, ek, rfl, rfl⟩) ?_
        refine h_putI dX12_act_43 f_X12_364_10 p_X12_10_44 (fun h => by cases h) rfl ?_
        refine h_aload_n dX12_act_46 rfl ?_
        refine h_aload_n dX12_act_47 rfl ?_
        refine h_getR dX12_act_48 f_X12_87_10 rfl rfl ?_
        refine h_iload_n dX12_act_51 rfl ?_
        refine h_ialdN (j := s) dX12_act_52 rfl rfl (by omega) rfl ((w3 (by omega)).trans e9) ?_
        refine h_putI dX12_act_53 f_X12_373_10 p_X12_10_45 (fun h => by cases h) rfl ?_
        refine h_aload_n dX12_act_56 rfl ?_
        refine h_aload_n dX12_act_57 rfl ?_
        refine h_getI dX12_act_58 f_X12_364_10 rfl (show _ = nI 2 from rfl) ?_
        refine h_bipush dX12_act_61 cb_6 ?_
        refine h_icmpne (tgt := 82) dX12_act_63 rfl (fun _ => ?_) (fun c => absurd c (by decide))
        refine h_aload_n dX12_act_82 rfl ?_
        refine h_getR dX12_act_83 f_X12_19_10 rfl rfl ?_
        refine h_bipush dX12_act_86 cb_7 ?_
        refine h_aload_n dX12_act_88 rfl ?_
        refine h_getI dX12_act_89 f_X12_373_10 rfl (show _ = nI i from rfl) ?_
        refine h_imulN dX12_act_92 ?_
        refine h_iconst dX12_act_93 ci_3 ?_
        refine h_iaddN dX12_act_94 ?_
        refine h_ialdN (j := (7 * i) + 3) dX12_act_95 rfl rfl (by omega) rfl (hsi i (by omega)).2.2.2.1 ?_
        refine h_putI dX12_act_96 f_X12_370_10 p_X12_10_46 (fun h => by cases h) rfl ?_
        refine h_aload_n dX12_act_99 rfl ?_
        refine h_iconst dX12_act_100 ci_0 ?_
        refine h_putZ dX12_act_101 f_X12_382_10 p_X12_10_49 (fun h => by cases h) rfl (by decide) ?_
        refine h_iload_n dX12_act_104 rfl ?_
        refine h_ifne (tgt := 116) dX12_act_105 rfl (fun _ => ?_) (fun c => absurd c (by decide))
        refine h_iload_n dX12_act_116 rfl ?_
        refine h_iconst dX12_act_117 ci_1 ?_
        refine h_icmpne (tgt := 129) dX12_act_118 rfl (fun _ => ?_) (fun c => absurd c (by decide))
        refine h_iload_n dX12_act_129 rfl ?_
        refine h_iconst dX12_act_130 ci_2 ?_
        refine h_icmpne (tgt := 142) dX12_act_131 rfl (fun _ => ?_) (fun c => absurd c (by decide))
        refine h_aload_n dX12_act_142 rfl ?_
        refine h_iload_n dX12_act_143 rfl ?_
        refine h_cV1 dX12_act_144 k7_60 oVX12_tellsIt rfl rfl ?_
        refine r2_X12_tellsIt (n := nI i) (a := sn i) (j := 0) rfl rfl rfl rfl (by omega) ?_
        refine h_istore dX12_act_147 (Nat.le_of_ble_eq_true rfl) ?_
        refine h_aload_n dX12_act_149 rfl ?_
        refine h_getZ dX12_act_150 f_X12_382_10 rfl (show _ = nI 0 from ap_n (by decide) (by decide) rfl) ?_
        refine h_ifeq (tgt := 161) dX12_act_153 rfl (fun _ => ?_) (fun c => absurd (by decide) c)
        refine h_iload dX12_act_161 rfl ?_
        refine h_ireturn dX12_act_163 rfl ?_
        exact hQ _ (AR_iff.mpr ⟨fun x h110 h82 => by simp [upI, h110, h82, ap_o h110 h82], fun j q44 q45 q46 q48 q49 => by
          have e : ∀ I0 : hI, ap I0 110 82 48 0 [13, 11, 30, 10] 82 j = I0 82 j := fun I0 => ap_n (by decide) q48 rfl
          simp [upI, upd, e, q44, q45, q46, q48, q49]⟩) (ap_c0 (by decide) rfl rfl) (fun i0 hi => ap_g0 (by decide) hi)
      · exact absurd ⟨by decide, by decide⟩ b3
    · exact absurd ⟨by decide, by decide⟩ b2
  · exact absurd ⟨by rw [nI_leI (by omega) (by omega)]; omega, by rw [nI_leI (by omega) (by omega)]; omega⟩ b1
theorem r_act30 {l : Launch} {dp : Nat} {ns nl np ml nk nw : Nat} {pl fa fb sl pp pm ki fr tg wh bw : Nat → Nat} {rs sn : Nat → Int32} {fl : Nat → Bool} {qw : Nat → Nat → Nat → Nat → Bool} {I : hI} {J : hJ} {lt tx : Option Nat} {sk : Nat → Nat} {sm sz : Nat → Int32} {s : Nat} {i : Nat} {z : Int32} {Q : hQ} (hG : rG I ns nl np ml nk nw pl fa fb sl pp pm ki fr tg wh bw rs sn fl qw) (hH : rH I sk sm sz) (hs : s < 4) (hi : i < nk) (e0 : sk s = 0) (e9 : sm s = nI i) (ek : ki i = 3) (hQ : ∀ I', AR I I' → I' 82 48 = nI 1 → (∀ i, i < 1 → I' 110 i = nI (List.getD [10] i 0)) → Q (some (.int ((z + (sn i))))) hSH I' J (hRR lt tx))  : HC l mX12_act (dp + 6) 0 0 [.ref 82, .int (nI s), .int (nI 0), .int z] hSH I J (hRR lt tx) Q := by
  refine HC.of (by decide +kernel) rfl (Nat.le_of_ble_eq_true rfl) ?_
  show HV l mX12_act (dp + 6) 0 0 0 [some (.ref 82), some (.int (nI s)), some (.int (nI 0)), some (.int z), none] [] hSH I J (hRR lt tx) Q
  obtain ⟨hN, hw, ⟨hnp, hml, hnk, hpt, hsi⟩, ⟨hn8, hm2, hn24, hpW, hsW⟩, hL⟩ := id hG
  obtain ⟨hns, hnl, hpl, hlg⟩ := id hN
  obtain ⟨hn6, hl12, hW, hp99, hr99⟩ := id hw
  obtain ⟨w1, w2, w3, w4⟩ := hH s hs
  refine h_aload_n dX12_act_0 rfl ?_
  refine h_iconst dX12_act_1 ci_0 ?_
  refine h_putI dX12_act_2 f_X12_361_10 p_X12_10_48 (fun h => by cases h) rfl ?_
  refine h_iload_n dX12_act_5 rfl ?_
  refine h_cS1 dX12_act_6 k6_233 oSX12_isShelf rfl ?_
  refine c_X12_isShelf (fun b1 => ?_) (fun b1 => ?_)
  · refine h_ifeq (tgt := 35) dX12_act_9 rfl (fun c => absurd c (by decide)) (fun _ => ?_)
    refine h_iload_n dX12_act_12 rfl ?_
    refine h_iconst dX12_act_13 ci_0 ?_
    refine h_iconst dX12_act_14 ci_3 ?_
    refine h_cS3 dX12_act_15 k5_172 oSX12_in rfl ?_
    refine c_X12_in (fun b2 => ?_) (fun b2 => ?_)
    · refine h_ifeq (tgt := 35) dX12_act_18 rfl (fun c => absurd c (by decide)) (fun _ => ?_)
      refine h_aload_n dX12_act_21 rfl ?_
      refine h_iload_n dX12_act_22 rfl ?_
      refine h_cV1 dX12_act_23 k7_25 oVX12_kindOn rfl rfl ?_
      refine r_kindA (I := (upI I 82 48 (nI 0))) (k := 3) hG hH hs (.inr ⟨by omega, by omega, i, hi, e0, e9, ek, rfl, rfl⟩) ?_
      refine h_iconst dX12_act_26 ci_1 ?_
      refine h_bipush dX12_act_27 cb_6 ?_
      refine h_cS3 dX12_act_29 k5_172 oSX12_in rfl ?_
      refine c_X12_in (fun b3 => ?_) (fun b3 => ?_)
      · refine h_ifne (tgt := 37) dX12_act_32 rfl (fun _ => ?_) (fun c => absurd c (by decide))
        refine h_aload_n dX12_act_37 rfl ?_
        refine h_aload_n dX12_act_38 rfl ?_
        refine h_iload_n dX12_act_39 rfl ?_
        refine h_cV1 dX12_act_40 k7_25 oVX12_kindOn rfl rfl ?_
        refine r_kindA (I := (upI I 82 48 (nI 0))) (k := 3) hG hH hs (.inr ⟨by omega, by omega, i, hi, e0, e9, ek, rfl, rfl⟩) ?_
        refine h_putI dX12_act_43 f_X12_364_10 p_X12_10_44 (fun h => by cases h) rfl ?_
        refine h_aload_n dX12_act_46 rfl ?_
        refine h_aload_n dX12_act_47 rfl ?_
        refine h_getR dX12_act_48 f_X12_87_10 rfl rfl ?_
        refine h_iload_n dX12_act_51 rfl ?_
        refine h_ialdN (j := s) dX12_act_52 rfl rfl (by omega) rfl ((w3 (by omega)).trans e9) ?_
        refine h_putI dX12_act_53 f_X12_373_10 p_X12_10_45 (fun h => by cases h) rfl ?_
        refine h_aload_n dX12_act_56 rfl ?_
        refine h_aload_n dX12_act_57 rfl ?_
        refine h_getI dX12_act_58 f_X12_364_10 rfl (show _ = nI 3 from rfl) ?_
        refine h_bipush dX12_act_61 cb_6 ?_
        refine h_icmpne (tgt := 82) dX12_act_63 rfl (fun _ => ?_) (fun c => absurd c (by decide))
        refine h_aload_n dX12_act_82 rfl ?_
        refine h_getR dX12_act_83 f_X12_19_10 rfl rfl ?_
        refine h_bipush dX12_act_86 cb_7 ?_
        refine h_aload_n dX12_act_88 rfl ?_
        refine h_getI dX12_act_89 f_X12_373_10 rfl (show _ = nI i from rfl) ?_
        refine h_imulN dX12_act_92 ?_
        refine h_iconst dX12_act_93 ci_3 ?_
        refine h_iaddN dX12_act_94 ?_
        refine h_ialdN (j := (7 * i) + 3) dX12_act_95 rfl rfl (by omega) rfl (hsi i (by omega)).2.2.2.1 ?_
        refine h_putI dX12_act_96 f_X12_370_10 p_X12_10_46 (fun h => by cases h) rfl ?_
        refine h_aload_n dX12_act_99 rfl ?_
        refine h_iconst dX12_act_100 ci_0 ?_
        refine h_putZ dX12_act_101 f_X12_382_10 p_X12_10_49 (fun h => by cases h) rfl (by decide) ?_
        refine h_iload_n dX12_act_104 rfl ?_
        refine h_ifne (tgt := 116) dX12_act_105 rfl (fun c => absurd (by decide) c) (fun _ => ?_)
        refine h_aload_n dX12_act_108 rfl ?_
        refine h_iload_n dX12_act_109 rfl ?_
        refine h_cV1 dX12_act_110 k7_36 oVX12_seesIt rfl rfl ?_
        refine r3_X12_seesIt (n := nI i) (a := sn i) (j := 0) rfl rfl rfl rfl (by omega) ?_
        refine h_goto (tgt := 147) dX12_act_113 rfl ?_
        refine h_istore dX12_act_147 (Nat.le_of_ble_eq_true rfl) ?_
        refine h_aload_n dX12_act_149 rfl ?_
        refine h_getZ dX12_act_150 f_X12_382_10 rfl (show _ = nI 0 from ap_n (by decide) (by decide) rfl) ?_
        refine h_ifeq (tgt := 161) dX12_act_153 rfl (fun _ => ?_) (fun c => absurd (by decide) c)
        refine h_iload dX12_act_161 rfl ?_
        refine h_ireturn dX12_act_163 rfl ?_
        exact hQ _ (AR_iff.mpr ⟨fun x h110 h82 => by simp [upI, h110, h82, ap_o h110 h82], fun j q44 q45 q46 q48 q49 => by
          have e : ∀ I0 : hI, ap I0 110 82 48 0 [10] 82 j = I0 82 j := fun I0 => ap_n (by decide) q48 rfl
          simp [upI, upd, e, q44, q45, q46, q48, q49]⟩) (ap_c0 (by decide) rfl rfl) (fun i0 hi => ap_g0 (by decide) hi)
      · exact absurd ⟨by decide, by decide⟩ b3
    · exact absurd ⟨by decide, by decide⟩ b2
  · exact absurd ⟨by rw [nI_leI (by omega) (by omega)]; omega, by rw [nI_leI (by omega) (by omega)]; omega⟩ b1
theorem r_act31 {l : Launch} {dp : Nat} {ns nl np ml nk nw : Nat} {pl fa fb sl pp pm ki fr tg wh bw : Nat → Nat} {rs sn : Nat → Int32} {fl : Nat → Bool} {qw : Nat → Nat → Nat → Nat → Bool} {I : hI} {J : hJ} {lt tx : Option Nat} {sk : Nat → Nat} {sm sz : Nat → Int32} {s : Nat} {i : Nat} {z : Int32} {Q : hQ} (hG : rG I ns nl np ml nk nw pl fa fb sl pp pm ki fr tg wh bw rs sn fl qw) (hH : rH I sk sm sz) (hs : s < 4) (hi : i < nk) (e0 : sk s = 0) (e9 : sm s = nI i) (ek : ki i = 3) (hQ : ∀ I', AR I I' → I' 82 48 = nI 2 → (∀ i, i < 2 → I' 110 i = nI (List.getD [11, 10] i 0)) → Q (some (.int (((z + (sn i)) * nI 2)))) hSH I' J (hRR lt tx))  : HC l mX12_act (dp + 6) 0 0 [.ref 82, .int (nI s), .int (nI 1), .int z] hSH I J (hRR lt tx) Q := by
  refine HC.of (by decide +kernel) rfl (Nat.le_of_ble_eq_true rfl) ?_
  show HV l mX12_act (dp + 6) 0 0 0 [some (.ref 82), some (.int (nI s)), some (.int (nI 1)), some (.int z), none] [] hSH I J (hRR lt tx) Q
  obtain ⟨hN, hw, ⟨hnp, hml, hnk, hpt, hsi⟩, ⟨hn8, hm2, hn24, hpW, hsW⟩, hL⟩ := id hG
  obtain ⟨hns, hnl, hpl, hlg⟩ := id hN
  obtain ⟨hn6, hl12, hW, hp99, hr99⟩ := id hw
  obtain ⟨w1, w2, w3, w4⟩ := hH s hs
  refine h_aload_n dX12_act_0 rfl ?_
  refine h_iconst dX12_act_1 ci_0 ?_
  refine h_putI dX12_act_2 f_X12_361_10 p_X12_10_48 (fun h => by cases h) rfl ?_
  refine h_iload_n dX12_act_5 rfl ?_
  refine h_cS1 dX12_act_6 k6_233 oSX12_isShelf rfl ?_
  refine c_X12_isShelf (fun b1 => ?_) (fun b1 => ?_)
  · refine h_ifeq (tgt := 35) dX12_act_9 rfl (fun c => absurd c (by decide)) (fun _ => ?_)
    refine h_iload_n dX12_act_12 rfl ?_
    refine h_iconst dX12_act_13 ci_0 ?_
    refine h_iconst dX12_act_14 ci_3 ?_
    refine h_cS3 dX12_act_15 k5_172 oSX12_in rfl ?_
    refine c_X12_in (fun b2 => ?_) (fun b2 => ?_)
    · refine h_ifeq (tgt := 35) dX12_act_18 rfl (fun c => absurd c (by decide)) (fun _ => ?_)
      refine h_aload_n dX12_act_21 rfl ?_
      refine h_iload_n dX12_act_22 rfl ?_
      refine h_cV1 dX12_act_23 k7_25 oVX12_kindOn rfl rfl ?_
      refine r_kindA (I := (upI I 82 48 (nI 0))) (k := 3) hG hH hs (.inr ⟨by omega, by omega, i, hi, e0, e9, ek, rfl, rfl⟩) ?_
      refine h_iconst dX12_act_26 ci_1 ?_
      refine h_bipush dX12_act_27 cb_6 ?_
      refine h_cS3 dX12_act_29 k5_172 oSX12_in rfl ?_
      refine c_X12_in (fun b3 => ?_) (fun b3 => ?_)
      · refine h_ifne (tgt := 37) dX12_act_32 rfl (fun _ => ?_) (fun c => absurd c (by decide))
        refine h_aload_n dX12_act_37 rfl ?_
        refine h_aload_n dX12_act_38 rfl ?_
        refine h_iload_n dX12_act_39 rfl ?_
        refine h_cV1 dX12_act_40 k7_25 oVX12_kindOn rfl rfl ?_
        refine r_kindA (I := (upI I 82 48 (nI 0))) (k := 3) hG hH hs (.inr ⟨by omega, by omega, i, hi, e0, e9, ek, rfl, rfl⟩) ?_
        refine h_putI dX12_act_43 f_X12_364_10 p_X12_10_44 (fun h => by cases h) rfl ?_
        refine h_aload_n dX12_act_46 rfl ?_
        refine h_aload_n dX12_act_47 rfl ?_
        refine h_getR dX12_act_48 f_X12_87_10 rfl rfl ?_
        refine h_iload_n dX12_act_51 rfl ?_
        refine h_ialdN (j := s) dX12_act_52 rfl rfl (by omega) rfl ((w3 (by omega)).trans e9) ?_
        refine h_putI dX12_act_53 f_X12_373_10 p_X12_10_45 (fun h => by cases h) rfl ?_
        refine h_aload_n dX12_act_56 rfl ?_
        refine h_aload_n dX12_act_57 rfl ?_
        refine h_getI dX12_act_58 f_X12_364_10 rfl (show _ = nI 3 from rfl) ?_
        refine h_bipush dX12_act_61 cb_6 ?_
        refine h_icmpne (tgt := 82) dX12_act_63 rfl (fun _ => ?_) (fun c => absurd c (by decide))
        refine h_aload_n dX12_act_82 rfl ?_
        refine h_getR dX12_act_83 f_X12_19_10 rfl rfl ?_
        refine h_bipush dX12_act_86 cb_7 ?_
        refine h_aload_n dX12_act_88 rfl ?_
        refine h_getI dX12_act_89 f_X12_373_10 rfl (show _ = nI i from rfl) ?_
        refine h_imulN dX12_act_92 ?_
        refine h_iconst dX12_act_93 ci_3 ?_
        refine h_iaddN dX12_act_94 ?_
        refine h_ialdN (j := (7 * i) + 3) dX12_act_95 rfl rfl (by omega) rfl (hsi i (by omega)).2.2.2.1 ?_
        refine h_putI dX12_act_96 f_X12_370_10 p_X12_10_46 (fun h => by cases h) rfl ?_
        refine h_aload_n dX12_act_99 rfl ?_
        refine h_iconst dX12_act_100 ci_0 ?_
        refine h_putZ dX12_act_101 f_X12_382_10 p_X12_10_49 (fun h => by cases h) rfl (by decide) ?_
        refine h_iload_n dX12_act_104 rfl ?_
        refine h_ifne (tgt := 116) dX12_act_105 rfl (fun _ => ?_) (fun c => absurd c (by decide))
        refine h_iload_n dX12_act_116 rfl ?_
        refine h_iconst dX12_act_117 ci_1 ?_
        refine h_icmpne (tgt := 129) dX12_act_118 rfl (fun c => absurd (by decide) c) (fun _ => ?_)
        refine h_aload_n dX12_act_121 rfl ?_
        refine h_iload_n dX12_act_122 rfl ?_
        refine h_cV1 dX12_act_123 k7_44 oVX12_bendsIt rfl rfl ?_
        refine r3_X12_bendsIt (n := nI i) (a := sn i) (j := 0) rfl rfl rfl rfl (by omega) ?_
        refine h_goto (tgt := 147) dX12_act_126 rfl ?_
        refine h_istore dX12_act_147 (Nat.le_of_ble_eq_true rfl) ?_
        refine h_aload_n dX12_act_149 rfl ?_
        refine h_getZ dX12_act_150 f_X12_382_10 rfl (show _ = nI 0 from ap_n (by decide) (by decide) rfl) ?_
        refine h_ifeq (tgt := 161) dX12_act_153 rfl (fun _ => ?_) (fun c => absurd (by decide) c)
        refine h_iload dX12_act_161 rfl ?_
        refine h_ireturn dX12_act_163 rfl ?_
        exact hQ _ (AR_iff.mpr ⟨fun x h110 h82 => by simp [upI, h110, h82, ap_o h110 h82], fun j q44 q45 q46 q48 q49 => by
          have e : ∀ I0 : hI, ap I0 110 82 48 0 [11, 10] 82 j = I0 82 j := fun I0 => ap_n (by decide) q48 rfl
          simp [upI, upd, e, q44, q45, q46, q48, q49]⟩) (ap_c0 (by decide) rfl rfl) (fun i0 hi => ap_g0 (by decide) hi)
      · exact absurd ⟨by decide, by decide⟩ b3
    · exact absurd ⟨by decide, by decide⟩ b2
  · exact absurd ⟨by rw [nI_leI (by omega) (by omega)]; omega, by rw [nI_leI (by omega) (by omega)]; omega⟩ b1
theorem r_act32 {l : Launch} {dp : Nat} {ns nl np ml nk nw : Nat} {pl fa fb sl pp pm ki fr tg wh bw : Nat → Nat} {rs sn : Nat → Int32} {fl : Nat → Bool} {qw : Nat → Nat → Nat → Nat → Bool} {I : hI} {J : hJ} {lt tx : Option Nat} {sk : Nat → Nat} {sm sz : Nat → Int32} {s : Nat} {i : Nat} {z : Int32} {Q : hQ} (hG : rG I ns nl np ml nk nw pl fa fb sl pp pm ki fr tg wh bw rs sn fl qw) (hH : rH I sk sm sz) (hs : s < 4) (hi : i < nk) (e0 : sk s = 0) (e9 : sm s = nI i) (ek : ki i = 3) (hQ : ∀ I', AR I I' → I' 82 48 = nI 2 → (∀ i, i < 2 → I' 110 i = nI (List.getD [40, 12] i 0)) → Q (some (.int (cif (sn i = nI i) (-15) ((z + nI 1) / ((sn i) - (nI i)) * nI 2)))) hSH I' J (hRR lt tx))  : HC l mX12_act (dp + 6) 0 0 [.ref 82, .int (nI s), .int (nI 2), .int z] hSH I J (hRR lt tx) Q := by
  refine HC.of (by decide +kernel) rfl (Nat.le_of_ble_eq_true rfl) ?_
  show HV l mX12_act (dp + 6) 0 0 0 [some (.ref 82), some (.int (nI s)), some (.int (nI 2)), some (.int z), none] [] hSH I J (hRR lt tx) Q
  obtain ⟨hN, hw, ⟨hnp, hml, hnk, hpt, hsi⟩, ⟨hn8, hm2, hn24, hpW, hsW⟩, hL⟩ := id hG
  obtain ⟨hns, hnl, hpl, hlg⟩ := id hN
  obtain ⟨hn6, hl12, hW, hp99, hr99⟩ := id hw
  obtain ⟨w1, w2, w3, w4⟩ := hH s hs
  refine h_aload_n dX12_act_0 rfl ?_
  refine h_iconst dX12_act_1 ci_0 ?_
  refine h_putI dX12_act_2 f_X12_361_10 p_X12_10_48 (fun h => by cases h) rfl ?_
  refine h_iload_n dX12_act_5 rfl ?_
  refine h_cS1 dX12_act_6 k6_233 oSX12_isShelf rfl ?_
  refine c_X12_isShelf (fun b1 => ?_) (fun b1 => ?_)
  · refine h_ifeq (tgt := 35) dX12_act_9 rfl (fun c => absurd c (by decide)) (fun _ => ?_)
    refine h_iload_n dX12_act_12 rfl ?_
    refine h_iconst dX12_act_13 ci_0 ?_
    refine h_iconst dX12_act_14 ci_3 ?_
    refine h_cS3 dX12_act_15 k5_172 oSX12_in rfl ?_
    refine c_X12_in (fun b2 => ?_) (fun b2 => ?_)
    · refine h_ifeq (tgt := 35) dX12_act_18 rfl (fun c => absurd c (by decide)) (fun _ => ?_)
      refine h_aload_n dX12_act_21 rfl ?_
      refine h_iload_n dX12_act_22 rfl ?_
      refine h_cV1 dX12_act_23 k7_25 oVX12_kindOn rfl rfl ?_
      refine r_kindA (I := (upI I 82 48 (nI 0))) (k := 3) hG hH hs (.inr ⟨by omega, by omega, i, hi, e0, e9, ek, rfl, rfl⟩) ?_
      refine h_iconst dX12_act_26 ci_1 ?_
      refine h_bipush dX12_act_27 cb_6 ?_
      refine h_cS3 dX12_act_29 k5_172 oSX12_in rfl ?_
      refine c_X12_in (fun b3 => ?_) (fun b3 => ?_)
      · refine h_ifne (tgt := 37) dX12_act_32 rfl (fun _ => ?_) (fun c => absurd c (by decide))
        refine h_aload_n dX12_act_37 rfl ?_
        refine h_aload_n dX12_act_38 rfl ?_
        refine h_iload_n dX12_act_39 rfl ?_
        refine h_cV1 dX12_act_40 k7_25 oVX12_kindOn rfl rfl ?_
        refine r_kindA (I := (upI I 82 48 (nI 0))) (k := 3) hG hH hs (.inr ⟨by omega, by omega, i, hi, e0, e9, ek, rfl, rfl⟩) ?_
        refine h_putI dX12_act_43 f_X12_364_10 p_X12_10_44 (fun h => by cases h) rfl ?_
        refine h_aload_n dX12_act_46 rfl ?_
        refine h_aload_n dX12_act_47 rfl ?_
        refine h_getR dX12_act_48 f_X12_87_10 rfl rfl ?_
        refine h_iload_n dX12_act_51 rfl ?_
        refine h_ialdN (j := s) dX12_act_52 rfl rfl (by omega) rfl ((w3 (by omega)).trans e9) ?_
        refine h_putI dX12_act_53 f_X12_373_10 p_X12_10_45 (fun h => by cases h) rfl ?_
        refine h_aload_n dX12_act_56 rfl ?_
        refine h_aload_n dX12_act_57 rfl ?_
        refine h_getI dX12_act_58 f_X12_364_10 rfl (show _ = nI 3 from rfl) ?_
        refine h_bipush dX12_act_61 cb_6 ?_
        refine h_icmpne (tgt := 82) dX12_act_63 rfl (fun _ => ?_) (fun c => absurd c (by decide))
        refine h_aload_n dX12_act_82 rfl ?_
        refine h_getR dX12_act_83 f_X12_19_10 rfl rfl ?_
        refine h_bipush dX12_act_86 cb_7 ?_
        refine h_aload_n dX12_act_88 rfl ?_
        refine h_getI dX12_act_89 f_X12_373_10 rfl (show _ = nI i from rfl) ?_
        refine h_imulN dX12_act_92 ?_
        refine h_iconst dX12_act_93 ci_3 ?_
        refine h_iaddN dX12_act_94 ?_
        refine h_ialdN (j := (7 * i) + 3) dX12_act_95 rfl rfl (by omega) rfl (hsi i (by omega)).2.2.2.1 ?_
        refine h_putI dX12_act_96 f_X12_370_10 p_X12_10_46 (fun h => by cases h) rfl ?_
        refine h_aload_n dX12_act_99 rfl ?_
        refine h_iconst dX12_act_100 ci_0 ?_
        refine h_putZ dX12_act_101 f_X12_382_10 p_X12_10_49 (fun h => by cases h) rfl (by decide) ?_
        refine h_iload_n dX12_act_104 rfl ?_
        refine h_ifne (tgt := 116) dX12_act_105 rfl (fun _ => ?_) (fun c => absurd c (by decide))
        refine h_iload_n dX12_act_116 rfl ?_
        refine h_iconst dX12_act_117 ci_1 ?_
        refine h_icmpne (tgt := 129) dX12_act_118 rfl (fun _ => ?_) (fun c => absurd c (by decide))
        refine h_iload_n dX12_act_129 rfl ?_
        refine h_iconst dX12_act_130 ci_2 ?_
        refine h_icmpne (tgt := 142) dX12_act_131 rfl (fun c => absurd (by decide) c) (fun _ => ?_)
        refine h_aload_n dX12_act_134 rfl ?_
        refine h_iload_n dX12_act_135 rfl ?_
        refine h_cV1 dX12_act_136 k7_52 oVX12_leansIt rfl rfl ?_
        refine r3_X12_leansIt (n := nI i) (a := sn i) (j := 0) rfl rfl rfl rfl (by omega) (fun v0 hz => ?_) (fun hz => ?_)
        · refine h_goto (tgt := 147) dX12_act_139 rfl ?_
          refine h_istore dX12_act_147 (Nat.le_of_ble_eq_true rfl) ?_
          refine h_aload_n dX12_act_149 rfl ?_
          refine h_getZ dX12_act_150 f_X12_382_10 rfl (show _ = nI 1 from rfl) ?_
          refine h_ifeq (tgt := 161) dX12_act_153 rfl (fun c => absurd c (by decide)) (fun _ => ?_)
          refine h_bipush dX12_act_156 cb_m15 ?_
          refine h_goto (tgt := 163) dX12_act_158 rfl ?_
          refine h_ireturn dX12_act_163 rfl ?_
          rw [cif_t hz] at hQ
          exact hQ _ (AR_iff.mpr ⟨fun x h110 h82 => by simp [upI, h110, h82, ap_o h110 h82], fun j q44 q45 q46 q48 q49 => by
            have e : ∀ I0 : hI, ap I0 110 82 48 0 [40, 12] 82 j = I0 82 j := fun I0 => ap_n (by decide) q48 rfl
            simp [upI, upd, e, q44, q45, q46, q48, q49]⟩) ((upI_f (by decide)).trans (ap_c0 (by decide) rfl rfl)) (fun i0 hi => (congrFun (upI_n _ _ _ (by decide)) i0).trans (ap_g0 (by decide) hi))
        · refine h_goto (tgt := 147) dX12_act_139 rfl ?_
          refine h_istore dX12_act_147 (Nat.le_of_ble_eq_true rfl) ?_
          refine h_aload_n dX12_act_149 rfl ?_
          refine h_getZ dX12_act_150 f_X12_382_10 rfl (show _ = nI 0 from ap_n (by decide) (by decide) rfl) ?_
          refine h_ifeq (tgt := 161) dX12_act_153 rfl (fun _ => ?_) (fun c => absurd (by decide) c)
          refine h_iload dX12_act_161 rfl ?_
          refine h_ireturn dX12_act_163 rfl ?_
          rw [cif_f hz] at hQ
          exact hQ _ (AR_iff.mpr ⟨fun x h110 h82 => by simp [upI, h110, h82, ap_o h110 h82], fun j q44 q45 q46 q48 q49 => by
            have e : ∀ I0 : hI, ap I0 110 82 48 0 [40, 12] 82 j = I0 82 j := fun I0 => ap_n (by decide) q48 rfl
            simp [upI, upd, e, q44, q45, q46, q48, q49]⟩) (ap_c0 (by decide) rfl rfl) (fun i0 hi => ap_g0 (by decide) hi)
      · exact absurd ⟨by decide, by decide⟩ b3
    · exact absurd ⟨by decide, by decide⟩ b2
  · exact absurd ⟨by rw [nI_leI (by omega) (by omega)]; omega, by rw [nI_leI (by omega) (by omega)]; omega⟩ b1
theorem r_act33 {l : Launch} {dp : Nat} {ns nl np ml nk nw : Nat} {pl fa fb sl pp pm ki fr tg wh bw : Nat → Nat} {rs sn : Nat → Int32} {fl : Nat → Bool} {qw : Nat → Nat → Nat → Nat → Bool} {I : hI} {J : hJ} {lt tx : Option Nat} {sk : Nat → Nat} {sm sz : Nat → Int32} {s : Nat} {i : Nat} {z : Int32} {Q : hQ} (hG : rG I ns nl np ml nk nw pl fa fb sl pp pm ki fr tg wh bw rs sn fl qw) (hH : rH I sk sm sz) (hs : s < 4) (hi : i < nk) (e0 : sk s = 0) (e9 : sm s = nI i) (ek : ki i = 3) (hQ : ∀ I', AR I I' → I' 82 48 = nI 3 → (∀ i, i < 3 → I' 110 i = nI (List.getD [13, 11, 10] i 0)) → Q (some (.int ((((z + (sn i)) * nI 2) ^^^ (nI i))))) hSH I' J (hRR lt tx))  : HC l mX12_act (dp + 6) 0 0 [.ref 82, .int (nI s), .int (nI 3), .int z] hSH I J (hRR lt tx) Q := by
  refine HC.of (by decide +kernel) rfl (Nat.le_of_ble_eq_true rfl) ?_
  show HV l mX12_act (dp + 6) 0 0 0 [some (.ref 82), some (.int (nI s)), some (.int (nI 3)), some (.int z), none] [] hSH I J (hRR lt tx) Q
  obtain ⟨hN, hw, ⟨hnp, hml, hnk, hpt, hsi⟩, ⟨hn8, hm2, hn24, hpW, hsW⟩, hL⟩ := id hG
  obtain ⟨hns, hnl, hpl, hlg⟩ := id hN
  obtain ⟨hn6, hl12, hW, hp99, hr99⟩ := id hw
  obtain ⟨w1, w2, w3, w4⟩ := hH s hs
  refine h_aload_n dX12_act_0 rfl ?_
  refine h_iconst dX12_act_1 ci_0 ?_
  refine h_putI dX12_act_2 f_X12_361_10 p_X12_10_48 (fun h => by cases h) rfl ?_
  refine h_iload_n dX12_act_5 rfl ?_
  refine h_cS1 dX12_act_6 k6_233 oSX12_isShelf rfl ?_
  refine c_X12_isShelf (fun b1 => ?_) (fun b1 => ?_)
  · refine h_ifeq (tgt := 35) dX12_act_9 rfl (fun c => absurd c (by decide)) (fun _ => ?_)
    refine h_iload_n dX12_act_12 rfl ?_
    refine h_iconst dX12_act_13 ci_0 ?_
    refine h_iconst dX12_act_14 ci_3 ?_
    refine h_cS3 dX12_act_15 k5_172 oSX12_in rfl ?_
    refine c_X12_in (fun b2 => ?_) (fun b2 => ?_)
    · refine h_ifeq (tgt := 35) dX12_act_18 rfl (fun c => absurd c (by decide)) (fun _ => ?_)
      refine h_aload_n dX12_act_21 rfl ?_
      refine h_iload_n dX12_act_22 rfl ?_
      refine h_cV1 dX12_act_23 k7_25 oVX12_kindOn rfl rfl ?_
      refine r_kindA (I := (upI I 82 48 (nI 0))) (k := 3) hG hH hs (.inr ⟨by omega, by omega, i, hi, e0, e9, ek, rfl, rfl⟩) ?_
      refine h_iconst dX12_act_26 ci_1 ?_
      refine h_bipush dX12_act_27 cb_6 ?_
      refine h_cS3 dX12_act_29 k5_172 oSX12_in rfl ?_
      refine c_X12_in (fun b3 => ?_) (fun b3 => ?_)
      · refine h_ifne (tgt := 37) dX12_act_32 rfl (fun _ => ?_) (fun c => absurd c (by decide))
        refine h_aload_n dX12_act_37 rfl ?_
        refine h_aload_n dX12_act_38 rfl ?_
        refine h_iload_n dX12_act_39 rfl ?_
        refine h_cV1 dX12_act_40 k7_25 oVX12_kindOn rfl rfl ?_
        refine r_kindA (I := (upI I 82 48 (nI 0))) (k := 3) hG hH hs (.inr ⟨by omega, by omega, i, hi, e0, e9, ek, rfl, rfl⟩) ?_
        refine h_putI dX12_act_43 f_X12_364_10 p_X12_10_44 (fun h => by cases h) rfl ?_
        refine h_aload_n dX12_act_46 rfl ?_
        refine h_aload_n dX12_act_47 rfl ?_
        refine h_getR dX12_act_48 f_X12_87_10 rfl rfl ?_
        refine h_iload_n dX12_act_51 rfl ?_
        refine h_ialdN (j := s) dX12_act_52 rfl rfl (by omega) rfl ((w3 (by omega)).trans e9) ?_
        refine h_putI dX12_act_53 f_X12_373_10 p_X12_10_45 (fun h => by cases h) rfl ?_
        refine h_aload_n dX12_act_56 rfl ?_
        refine h_aload_n dX12_act_57 rfl ?_
        refine h_getI dX12_act_58 f_X12_364_10 rfl (show _ = nI 3 from rfl) ?_
        refine h_bipush dX12_act_61 cb_6 ?_
        refine h_icmpne (tgt := 82) dX12_act_63 rfl (fun _ => ?_) (fun c => absurd c (by decide))
        refine h_aload_n dX12_act_82 rfl ?_
        refine h_getR dX12_act_83 f_X12_19_10 rfl rfl ?_
        refine h_bipush dX12_act_86 cb_7 ?_
        refine h_aload_n dX12_act_88 rfl ?_
        refine h_getI dX12_act_89 f_X12_373_10 rfl (show _ = nI i from rfl) ?_
        refine h_imulN dX12_act_92 ?_
        refine h_iconst dX12_act_93 ci_3 ?_
        refine h_iaddN dX12_act_94 ?_
        refine h_ialdN (j := (7 * i) + 3) dX12_act_95 rfl rfl (by omega) rfl (hsi i (by omega)).2.2.2.1 ?_
        refine h_putI dX12_act_96 f_X12_370_10 p_X12_10_46 (fun h => by cases h) rfl ?_
        refine h_aload_n dX12_act_99 rfl ?_
        refine h_iconst dX12_act_100 ci_0 ?_
        refine h_putZ dX12_act_101 f_X12_382_10 p_X12_10_49 (fun h => by cases h) rfl (by decide) ?_
        refine h_iload_n dX12_act_104 rfl ?_
        refine h_ifne (tgt := 116) dX12_act_105 rfl (fun _ => ?_) (fun c => absurd c (by decide))
        refine h_iload_n dX12_act_116 rfl ?_
        refine h_iconst dX12_act_117 ci_1 ?_
        refine h_icmpne (tgt := 129) dX12_act_118 rfl (fun _ => ?_) (fun c => absurd c (by decide))
        refine h_iload_n dX12_act_129 rfl ?_
        refine h_iconst dX12_act_130 ci_2 ?_
        refine h_icmpne (tgt := 142) dX12_act_131 rfl (fun _ => ?_) (fun c => absurd c (by decide))
        refine h_aload_n dX12_act_142 rfl ?_
        refine h_iload_n dX12_act_143 rfl ?_
        refine h_cV1 dX12_act_144 k7_60 oVX12_tellsIt rfl rfl ?_
        refine r3_X12_tellsIt (n := nI i) (a := sn i) (j := 0) rfl rfl rfl rfl (by omega) ?_
        refine h_istore dX12_act_147 (Nat.le_of_ble_eq_true rfl) ?_
        refine h_aload_n dX12_act_149 rfl ?_
        refine h_getZ dX12_act_150 f_X12_382_10 rfl (show _ = nI 0 from ap_n (by decide) (by decide) rfl) ?_
        refine h_ifeq (tgt := 161) dX12_act_153 rfl (fun _ => ?_) (fun c => absurd (by decide) c)
        refine h_iload dX12_act_161 rfl ?_
        refine h_ireturn dX12_act_163 rfl ?_
        exact hQ _ (AR_iff.mpr ⟨fun x h110 h82 => by simp [upI, h110, h82, ap_o h110 h82], fun j q44 q45 q46 q48 q49 => by
          have e : ∀ I0 : hI, ap I0 110 82 48 0 [13, 11, 10] 82 j = I0 82 j := fun I0 => ap_n (by decide) q48 rfl
          simp [upI, upd, e, q44, q45, q46, q48, q49]⟩) (ap_c0 (by decide) rfl rfl) (fun i0 hi => ap_g0 (by decide) hi)
      · exact absurd ⟨by decide, by decide⟩ b3
    · exact absurd ⟨by decide, by decide⟩ b2
  · exact absurd ⟨by rw [nI_leI (by omega) (by omega)]; omega, by rw [nI_leI (by omega) (by omega)]; omega⟩ b1
theorem r_act40 {l : Launch} {dp : Nat} {ns nl np ml nk nw : Nat} {pl fa fb sl pp pm ki fr tg wh bw : Nat → Nat} {rs sn : Nat → Int32} {fl : Nat → Bool} {qw : Nat → Nat → Nat → Nat → Bool} {I : hI} {J : hJ} {lt tx : Option Nat} {sk : Nat → Nat} {sm sz : Nat → Int32} {s : Nat} {i : Nat} {z : Int32} {Q : hQ} (hG : rG I ns nl np ml nk nw pl fa fb sl pp pm ki fr tg wh bw rs sn fl qw) (hH : rH I sk sm sz) (hs : s < 4) (hi : i < nk) (e0 : sk s = 0) (e9 : sm s = nI i) (ek : ki i = 4) (hQ : ∀ I', AR I I' → I' 82 48 = nI 2 → (∀ i, i < 2 → I' 110 i = nI (List.getD [50, 10] i 0)) → Q (some (.int (((z + (sn i)) ^^^ nI 3)))) hSH I' J (hRR lt tx))  : HC l mX12_act (dp + 6) 0 0 [.ref 82, .int (nI s), .int (nI 0), .int z] hSH I J (hRR lt tx) Q := by
  refine HC.of (by decide +kernel) rfl (Nat.le_of_ble_eq_true rfl) ?_
  show HV l mX12_act (dp + 6) 0 0 0 [some (.ref 82), some (.int (nI s)), some (.int (nI 0)), some (.int z), none] [] hSH I J (hRR lt tx) Q
  obtain ⟨hN, hw, ⟨hnp, hml, hnk, hpt, hsi⟩, ⟨hn8, hm2, hn24, hpW, hsW⟩, hL⟩ := id hG
  obtain ⟨hns, hnl, hpl, hlg⟩ := id hN
  obtain ⟨hn6, hl12, hW, hp99, hr99⟩ := id hw
  obtain ⟨w1, w2, w3, w4⟩ := hH s hs
  refine h_aload_n dX12_act_0 rfl ?_
  refine h_iconst dX12_act_1 ci_0 ?_
  refine h_putI dX12_act_2 f_X12_361_10 p_X12_10_48 (fun h => by cases h) rfl ?_
  refine h_iload_n dX12_act_5 rfl ?_
  refine h_cS1 dX12_act_6 k6_233 oSX12_isShelf rfl ?_
  refine c_X12_isShelf (fun b1 => ?_) (fun b1 => ?_)
  · refine h_ifeq (tgt := 35) dX12_act_9 rfl (fun c => absurd c (by decide)) (fun _ => ?_)
    refine h_iload_n dX12_act_12 rfl ?_
    refine h_iconst dX12_act_13 ci_0 ?_
    refine h_iconst dX12_act_14 ci_3 ?_
    refine h_cS3 dX12_act_15 k5_172 oSX12_in rfl ?_
    refine c_X12_in (fun b2 => ?_) (fun b2 => ?_)
    · refine h_ifeq (tgt := 35) dX12_act_18 rfl (fun c => absurd c (by decide)) (fun _ => ?_)
      refine h_aload_n dX12_act_21 rfl ?_
      refine h_iload_n dX12_act_22 rfl ?_
      refine h_cV1 dX12_act_23 k7_25 oVX12_kindOn rfl rfl ?_
      refine r_kindA (I := (upI I 82 48 (nI 0))) (k := 4) hG hH hs (.inr ⟨by omega, by omega, i, hi, e0, e9, ek, rfl, rfl⟩) ?_
      refine h_iconst dX12_act_26 ci_1 ?_
      refine h_bipush dX12_act_27 cb_6 ?_
      refine h_cS3 dX12_act_29 k5_172 oSX12_in rfl ?_
      refine c_X12_in (fun b3 => ?_) (fun b3 => ?_)
      · refine h_ifne (tgt := 37) dX12_act_32 rfl (fun _ => ?_) (fun c => absurd c (by decide))
        refine h_aload_n dX12_act_37 rfl ?_
        refine h_aload_n dX12_act_38 rfl ?_
        refine h_iload_n dX12_act_39 rfl ?_
        refine h_cV1 dX12_act_40 k7_25 oVX12_kindOn rfl rfl ?_
        refine r_kindA (I := (upI I 82 48 (nI 0))) (k := 4) hG hH hs (.inr ⟨by omega, by omega, i, hi, e0, e9, ek, rfl, rfl⟩) ?_
        refine h_putI dX12_act_43 f_X12_364_10 p_X12_10_44 (fun h => by cases h) rfl ?_
        refine h_aload_n dX12_act_46 rfl ?_
        refine h_aload_n dX12_act_47 rfl ?_
        refine h_getR dX12_act_48 f_X12_87_10 rfl rfl ?_
        refine h_iload_n dX12_act_51 rfl ?_
        refine h_ialdN (j := s) dX12_act_52 rfl rfl (by omega) rfl ((w3 (by omega)).trans e9) ?_
        refine h_putI dX12_act_53 f_X12_373_10 p_X12_10_45 (fun h => by cases h) rfl ?_
        refine h_aload_n dX12_act_56 rfl ?_
        refine h_aload_n dX12_act_57 rfl ?_
        refine h_getI dX12_act_58 f_X12_364_10 rfl (show _ = nI 4 from rfl) ?_
        refine h_bipush dX12_act_61 cb_6 ?_
        refine h_icmpne (tgt := 82) dX12_act_63 rfl (fun _ => ?_) (fun c => absurd c (by decide))
        refine h_aload_n dX12_act_82 rfl ?_
        refine h_getR dX12_act_83 f_X12_19_10 rfl rfl ?_
        refine h_bipush dX12_act_86 cb_7 ?_
        refine h_aload_n dX12_act_88 rfl ?_
        refine h_getI dX12_act_89 f_X12_373_10 rfl (show _ = nI i from rfl) ?_
        refine h_imulN dX12_act_92 ?_
        refine h_iconst dX12_act_93 ci_3 ?_
        refine h_iaddN dX12_act_94 ?_
        refine h_ialdN (j := (7 * i) + 3) dX12_act_95 rfl rfl (by omega) rfl (hsi i (by omega)).2.2.2.1 ?_
        refine h_putI dX12_act_96 f_X12_370_10 p_X12_10_46 (fun h => by cases h) rfl ?_
        refine h_aload_n dX12_act_99 rfl ?_
        refine h_iconst dX12_act_100 ci_0 ?_
        refine h_putZ dX12_act_101 f_X12_382_10 p_X12_10_49 (fun h => by cases h) rfl (by decide) ?_
        refine h_iload_n dX12_act_104 rfl ?_
        refine h_ifne (tgt := 116) dX12_act_105 rfl (fun c => absurd (by decide) c) (fun _ => ?_)
        refine h_aload_n dX12_act_108 rfl ?_
        refine h_iload_n dX12_act_109 rfl ?_
        refine h_cV1 dX12_act_110 k7_36 oVX12_seesIt rfl rfl ?_
        refine r4_X12_seesIt (n := nI i) (a := sn i) (j := 0) rfl rfl rfl rfl (by omega) ?_
        refine h_goto (tgt := 147) dX12_act_113 rfl ?_
        refine h_istore dX12_act_147 (Nat.le_of_ble_eq_true rfl) ?_
        refine h_aload_n dX12_act_149 rfl ?_
        refine h_getZ dX12_act_150 f_X12_382_10 rfl (show _ = nI 0 from ap_n (by decide) (by decide) rfl) ?_
        refine h_ifeq (tgt := 161) dX12_act_153 rfl (fun _ => ?_) (fun c => absurd (by decide) c)
        refine h_iload dX12_act_161 rfl ?_
        refine h_ireturn dX12_act_163 rfl ?_
        exact hQ _ (AR_iff.mpr ⟨fun x h110 h82 => by simp [upI, h110, h82, ap_o h110 h82], fun j q44 q45 q46 q48 q49 => by
          have e : ∀ I0 : hI, ap I0 110 82 48 0 [50, 10] 82 j = I0 82 j := fun I0 => ap_n (by decide) q48 rfl
          simp [upI, upd, e, q44, q45, q46, q48, q49]⟩) (ap_c0 (by decide) rfl rfl) (fun i0 hi => ap_g0 (by decide) hi)
      · exact absurd ⟨by decide, by decide⟩ b3
    · exact absurd ⟨by decide, by decide⟩ b2
  · exact absurd ⟨by rw [nI_leI (by omega) (by omega)]; omega, by rw [nI_leI (by omega) (by omega)]; omega⟩ b1
theorem r_act41 {l : Launch} {dp : Nat} {ns nl np ml nk nw : Nat} {pl fa fb sl pp pm ki fr tg wh bw : Nat → Nat} {rs sn : Nat → Int32} {fl : Nat → Bool} {qw : Nat → Nat → Nat → Nat → Bool} {I : hI} {J : hJ} {lt tx : Option Nat} {sk : Nat → Nat} {sm sz : Nat → Int32} {s : Nat} {i : Nat} {z : Int32} {Q : hQ} (hG : rG I ns nl np ml nk nw pl fa fb sl pp pm ki fr tg wh bw rs sn fl qw) (hH : rH I sk sm sz) (hs : s < 4) (hi : i < nk) (e0 : sk s = 0) (e9 : sm s = nI i) (ek : ki i = 4) (hQ : ∀ I', AR I I' → I' 82 48 = nI 4 → (∀ i, i < 4 → I' 110 i = nI (List.getD [20, 11, 50, 10] i 0)) → Q (some (.int ((((z + (sn i)) ^^^ nI 3) * nI 2 + nI 7)))) hSH I' J (hRR lt tx))  : HC l mX12_act (dp + 6) 0 0 [.ref 82, .int (nI s), .int (nI 1), .int z] hSH I J (hRR lt tx) Q := by
  refine HC.of (by decide +kernel) rfl (Nat.le_of_ble_eq_true rfl) ?_
  show HV l mX12_act (dp + 6) 0 0 0 [some (.ref 82), some (.int (nI s)), some (.int (nI 1)), some (.int z), none] [] hSH I J (hRR lt tx) Q
  obtain ⟨hN, hw, ⟨hnp, hml, hnk, hpt, hsi⟩, ⟨hn8, hm2, hn24, hpW, hsW⟩, hL⟩ := id hG
  obtain ⟨hns, hnl, hpl, hlg⟩ := id hN
  obtain ⟨hn6, hl12, hW, hp99, hr99⟩ := id hw
  obtain ⟨w1, w2, w3, w4⟩ := hH s hs
  refine h_aload_n dX12_act_0 rfl ?_
  refine h_iconst dX12_act_1 ci_0 ?_
  refine h_putI dX12_act_2 f_X12_361_10 p_X12_10_48 (fun h => by cases h) rfl ?_
  refine h_iload_n dX12_act_5 rfl ?_
  refine h_cS1 dX12_act_6 k6_233 oSX12_isShelf rfl ?_
  refine c_X12_isShelf (fun b1 => ?_) (fun b1 => ?_)
  · refine h_ifeq (tgt := 35) dX12_act_9 rfl (fun c => absurd c (by decide)) (fun _ => ?_)
    refine h_iload_n dX12_act_12 rfl ?_
    refine h_iconst dX12_act_13 ci_0 ?_
    refine h_iconst dX12_act_14 ci_3 ?_
    refine h_cS3 dX12_act_15 k5_172 oSX12_in rfl ?_
    refine c_X12_in (fun b2 => ?_) (fun b2 => ?_)
    · refine h_ifeq (tgt := 35) dX12_act_18 rfl (fun c => absurd c (by decide)) (fun _ => ?_)
      refine h_aload_n dX12_act_21 rfl ?_
      refine h_iload_n dX12_act_22 rfl ?_
      refine h_cV1 dX12_act_23 k7_25 oVX12_kindOn rfl rfl ?_
      refine r_kindA (I := (upI I 82 48 (nI 0))) (k := 4) hG hH hs (.inr ⟨by omega, by omega, i, hi, e0, e9, ek, rfl, rfl⟩) ?_
      refine h_iconst dX12_act_26 ci_1 ?_
      refine h_bipush dX12_act_27 cb_6 ?_
      refine h_cS3 dX12_act_29 k5_172 oSX12_in rfl ?_
      refine c_X12_in (fun b3 => ?_) (fun b3 => ?_)
      · refine h_ifne (tgt := 37) dX12_act_32 rfl (fun _ => ?_) (fun c => absurd c (by decide))
        refine h_aload_n dX12_act_37 rfl ?_
        refine h_aload_n dX12_act_38 rfl ?_
        refine h_iload_n dX12_act_39 rfl ?_
        refine h_cV1 dX12_act_40 k7_25 oVX12_kindOn rfl rfl ?_
        refine r_kindA (I := (upI I 82 48 (nI 0))) (k := 4) hG hH hs (.inr ⟨by omega, by omega, i, hi, e0, e9, ek, rfl, rfl⟩) ?_
        refine h_putI dX12_act_43 f_X12_364_10 p_X12_10_44 (fun h => by cases h) rfl ?_
        refine h_aload_n dX12_act_46 rfl ?_
        refine h_aload_n dX12_act_47 rfl ?_
        refine h_getR dX12_act_48 f_X12_87_10 rfl rfl ?_
        refine h_iload_n dX12_act_51 rfl ?_
        refine h_ialdN (j := s) dX12_act_52 rfl rfl (by omega) rfl ((w3 (by omega)).trans e9) ?_
        refine h_putI dX12_act_53 f_X12_373_10 p_X12_10_45 (fun h => by cases h) rfl ?_
        refine h_aload_n dX12_act_56 rfl ?_
        refine h_aload_n dX12_act_57 rfl ?_
        refine h_getI dX12_act_58 f_X12_364_10 rfl (show _ = nI 4 from rfl) ?_
        refine h_bipush dX12_act_61 cb_6 ?_
        refine h_icmpne (tgt := 82) dX12_act_63 rfl (fun _ => ?_) (fun c => absurd c (by decide))
        refine h_aload_n dX12_act_82 rfl ?_
        refine h_getR dX12_act_83 f_X12_19_10 rfl rfl ?_
        refine h_bipush dX12_act_86 cb_7 ?_
        refine h_aload_n dX12_act_88 rfl ?_
        refine h_getI dX12_act_89 f_X12_373_10 rfl (show _ = nI i from rfl) ?_
        refine h_imulN dX12_act_92 ?_
        refine h_iconst dX12_act_93 ci_3 ?_
        refine h_iaddN dX12_act_94 ?_
        refine h_ialdN (j := (7 * i) + 3) dX12_act_95 rfl rfl (by omega) rfl (hsi i (by omega)).2.2.2.1 ?_
        refine h_putI dX12_act_96 f_X12_370_10 p_X12_10_46 (fun h => by cases h) rfl ?_
        refine h_aload_n dX12_act_99 rfl ?_
        refine h_iconst dX12_act_100 ci_0 ?_
        refine h_putZ dX12_act_101 f_X12_382_10 p_X12_10_49 (fun h => by cases h) rfl (by decide) ?_
        refine h_iload_n dX12_act_104 rfl ?_
        refine h_ifne (tgt := 116) dX12_act_105 rfl (fun _ => ?_) (fun c => absurd c (by decide))
        refine h_iload_n dX12_act_116 rfl ?_
        refine h_iconst dX12_act_117 ci_1 ?_
        refine h_icmpne (tgt := 129) dX12_act_118 rfl (fun c => absurd (by decide) c) (fun _ => ?_)
        refine h_aload_n dX12_act_121 rfl ?_
        refine h_iload_n dX12_act_122 rfl ?_
        refine h_cV1 dX12_act_123 k7_44 oVX12_bendsIt rfl rfl ?_
        refine r4_X12_bendsIt (n := nI i) (a := sn i) (j := 0) rfl rfl rfl rfl (by omega) ?_
        refine h_goto (tgt := 147) dX12_act_126 rfl ?_
        refine h_istore dX12_act_147 (Nat.le_of_ble_eq_true rfl) ?_
        refine h_aload_n dX12_act_149 rfl ?_
        refine h_getZ dX12_act_150 f_X12_382_10 rfl (show _ = nI 0 from ap_n (by decide) (by decide) rfl) ?_
        refine h_ifeq (tgt := 161) dX12_act_153 rfl (fun _ => ?_) (fun c => absurd (by decide) c)
        refine h_iload dX12_act_161 rfl ?_
        refine h_ireturn dX12_act_163 rfl ?_
        exact hQ _ (AR_iff.mpr ⟨fun x h110 h82 => by simp [upI, h110, h82, ap_o h110 h82], fun j q44 q45 q46 q48 q49 => by
          have e : ∀ I0 : hI, ap I0 110 82 48 0 [20, 11, 50, 10] 82 j = I0 82 j := fun I0 => ap_n (by decide) q48 rfl
          simp [upI, upd, e, q44, q45, q46, q48, q49]⟩) (ap_c0 (by decide) rfl rfl) (fun i0 hi => ap_g0 (by decide) hi)
      · exact absurd ⟨by decide, by decide⟩ b3
    · exact absurd ⟨by decide, by decide⟩ b2
  · exact absurd ⟨by rw [nI_leI (by omega) (by omega)]; omega, by rw [nI_leI (by omega) (by omega)]; omega⟩ b1
theorem r_act42 {l : Launch} {dp : Nat} {ns nl np ml nk nw : Nat} {pl fa fb sl pp pm ki fr tg wh bw : Nat → Nat} {rs sn : Nat → Int32} {fl : Nat → Bool} {qw : Nat → Nat → Nat → Nat → Bool} {I : hI} {J : hJ} {lt tx : Option Nat} {sk : Nat → Nat} {sm sz : Nat → Int32} {s : Nat} {i : Nat} {z : Int32} {Q : hQ} (hG : rG I ns nl np ml nk nw pl fa fb sl pp pm ki fr tg wh bw rs sn fl qw) (hH : rH I sk sm sz) (hs : s < 4) (hi : i < nk) (e0 : sk s = 0) (e9 : sm s = nI i) (ek : ki i = 4) (hQ : ∀ I', AR I I' → I' 82 48 = nI 1 → (∀ i, i < 1 → I' 110 i = nI (List.getD [12] i 0)) → Q (some (.int (cif (sn i = nI i) (-15) (z / ((sn i) - (nI i)))))) hSH I' J (hRR lt tx))  : HC l mX12_act (dp + 6) 0 0 [.ref 82, .int (nI s), .int (nI 2), .int z] hSH I J (hRR lt tx) Q := by
  refine HC.of (by decide +kernel) rfl (Nat.le_of_ble_eq_true rfl) ?_
  show HV l mX12_act (dp + 6) 0 0 0 [some (.ref 82), some (.int (nI s)), some (.int (nI 2)), some (.int z), none] [] hSH I J (hRR lt tx) Q
  obtain ⟨hN, hw, ⟨hnp, hml, hnk, hpt, hsi⟩, ⟨hn8, hm2, hn24, hpW, hsW⟩, hL⟩ := id hG
  obtain ⟨hns, hnl, hpl, hlg⟩ := id hN
  obtain ⟨hn6, hl12, hW, hp99, hr99⟩ := id hw
  obtain ⟨w1, w2, w3, w4⟩ := hH s hs
  refine h_aload_n dX12_act_0 rfl ?_
  refine h_iconst dX12_act_1 ci_0 ?_
  refine h_putI dX12_act_2 f_X12_361_10 p_X12_10_48 (fun h => by cases h) rfl ?_
  refine h_iload_n dX12_act_5 rfl ?_
  refine h_cS1 dX12_act_6 k6_233 oSX12_isShelf rfl ?_
  refine c_X12_isShelf (fun b1 => ?_) (fun b1 => ?_)
  · refine h_ifeq (tgt := 35) dX12_act_9 rfl (fun c => absurd c (by decide)) (fun _ => ?_)
    refine h_iload_n dX12_act_12 rfl ?_
    refine h_iconst dX12_act_13 ci_0 ?_
    refine h_iconst dX12_act_14 ci_3 ?_
    refine h_cS3 dX12_act_15 k5_172 oSX12_in rfl ?_
    refine c_X12_in (fun b2 => ?_) (fun b2 => ?_)
    · refine h_ifeq (tgt := 35) dX12_act_18 rfl (fun c => absurd c (by decide)) (fun _ => ?_)
      refine h_aload_n dX12_act_21 rfl ?_
      refine h_iload_n dX12_act_22 rfl ?_
      refine h_cV1 dX12_act_23 k7_25 oVX12_kindOn rfl rfl ?_
      refine r_kindA (I := (upI I 82 48 (nI 0))) (k := 4) hG hH hs (.inr ⟨by omega, by omega, i, hi, e0, e9, ek, rfl, rfl⟩) ?_
      refine h_iconst dX12_act_26 ci_1 ?_
      refine h_bipush dX12_act_27 cb_6 ?_
      refine h_cS3 dX12_act_29 k5_172 oSX12_in rfl ?_
      refine c_X12_in (fun b3 => ?_) (fun b3 => ?_)
      · refine h_ifne (tgt := 37) dX12_act_32 rfl (fun _ => ?_) (fun c => absurd c (by decide))
        refine h_aload_n dX12_act_37 rfl ?_
        refine h_aload_n dX12_act_38 rfl ?_
        refine h_iload_n dX12_act_39 rfl ?_
        refine h_cV1 dX12_act_40 k7_25 oVX12_kindOn rfl rfl ?_
        refine r_kindA (I := (upI I 82 48 (nI 0))) (k := 4) hG hH hs (.inr ⟨by omega, by omega, i, hi, e0, e9, ek, rfl, rfl⟩) ?_
        refine h_putI dX12_act_43 f_X12_364_10 p_X12_10_44 (fun h => by cases h) rfl ?_
        refine h_aload_n dX12_act_46 rfl ?_
        refine h_aload_n dX12_act_47 rfl ?_
        refine h_getR dX12_act_48 f_X12_87_10 rfl rfl ?_
        refine h_iload_n dX12_act_51 rfl ?_
        refine h_ialdN (j := s) dX12_act_52 rfl rfl (by omega) rfl ((w3 (by omega)).trans e9) ?_
        refine h_putI dX12_act_53 f_X12_373_10 p_X12_10_45 (fun h => by cases h) rfl ?_
        refine h_aload_n dX12_act_56 rfl ?_
        refine h_aload_n dX12_act_57 rfl ?_
        refine h_getI dX12_act_58 f_X12_364_10 rfl (show _ = nI 4 from rfl) ?_
        refine h_bipush dX12_act_61 cb_6 ?_
        refine h_icmpne (tgt := 82) dX12_act_63 rfl (fun _ => ?_) (fun c => absurd c (by decide))
        refine h_aload_n dX12_act_82 rfl ?_
        refine h_getR dX12_act_83 f_X12_19_10 rfl rfl ?_
        refine h_bipush dX12_act_86 cb_7 ?_
        refine h_aload_n dX12_act_88 rfl ?_
        refine h_getI dX12_act_89 f_X12_373_10 rfl (show _ = nI i from rfl) ?_
        refine h_imulN dX12_act_92 ?_
        refine h_iconst dX12_act_93 ci_3 ?_
        refine h_iaddN dX12_act_94 ?_
        refine h_ialdN (j := (7 * i) + 3) dX12_act_95 rfl rfl (by omega) rfl (hsi i (by omega)).2.2.2.1 ?_
        refine h_putI dX12_act_96 f_X12_370_10 p_X12_10_46 (fun h => by cases h) rfl ?_
        refine h_aload_n dX12_act_99 rfl ?_
        refine h_iconst dX12_act_100 ci_0 ?_
        refine h_putZ dX12_act_101 f_X12_382_10 p_X12_10_49 (fun h => by cases h) rfl (by decide) ?_
        refine h_iload_n dX12_act_104 rfl ?_
        refine h_ifne (tgt := 116) dX12_act_105 rfl (fun _ => ?_) (fun c => absurd c (by decide))
        refine h_iload_n dX12_act_116 rfl ?_
        refine h_iconst dX12_act_117 ci_1 ?_
        refine h_icmpne (tgt := 129) dX12_act_118 rfl (fun _ => ?_) (fun c => absurd c (by decide))
        refine h_iload_n dX12_act_129 rfl ?_
        refine h_iconst dX12_act_130 ci_2 ?_
        refine h_icmpne (tgt := 142) dX12_act_131 rfl (fun c => absurd (by decide) c) (fun _ => ?_)
        refine h_aload_n dX12_act_134 rfl ?_
        refine h_iload_n dX12_act_135 rfl ?_
        refine h_cV1 dX12_act_136 k7_52 oVX12_leansIt rfl rfl ?_
        refine r4_X12_leansIt (n := nI i) (a := sn i) (j := 0) rfl rfl rfl rfl (by omega) (fun v0 hz => ?_) (fun hz => ?_)
        · refine h_goto (tgt := 147) dX12_act_139 rfl ?_
          refine h_istore dX12_act_147 (Nat.le_of_ble_eq_true rfl) ?_
          refine h_aload_n dX12_act_149 rfl ?_
          refine h_getZ dX12_act_150 f_X12_382_10 rfl (show _ = nI 1 from rfl) ?_
          refine h_ifeq (tgt := 161) dX12_act_153 rfl (fun c => absurd c (by decide)) (fun _ => ?_)
          refine h_bipush dX12_act_156 cb_m15 ?_
          refine h_goto (tgt := 163) dX12_act_158 rfl ?_
          refine h_ireturn dX12_act_163 rfl ?_
          rw [cif_t hz] at hQ
          exact hQ _ (AR_iff.mpr ⟨fun x h110 h82 => by simp [upI, h110, h82, ap_o h110 h82], fun j q44 q45 q46 q48 q49 => by
            have e : ∀ I0 : hI, ap I0 110 82 48 0 [12] 82 j = I0 82 j := fun I0 => ap_n (by decide) q48 rfl
            simp [upI, upd, e, q44, q45, q46, q48, q49]⟩) ((upI_f (by decide)).trans (ap_c0 (by decide) rfl rfl)) (fun i0 hi => (congrFun (upI_n _ _ _ (by decide)) i0).trans (ap_g0 (by decide) hi))
        · refine h_goto (tgt := 147) dX12_act_139 rfl ?_
          refine h_istore dX12_act_147 (Nat.le_of_ble_eq_true rfl) ?_
          refine h_aload_n dX12_act_149 rfl ?_
          refine h_getZ dX12_act_150 f_X12_382_10 rfl (show _ = nI 0 from ap_n (by decide) (by decide) rfl) ?_
          refine h_ifeq (tgt := 161) dX12_act_153 rfl (fun _ => ?_) (fun c => absurd (by decide) c)
          refine h_iload dX12_act_161 rfl ?_
          refine h_ireturn dX12_act_163 rfl ?_
          rw [cif_f hz] at hQ
          exact hQ _ (AR_iff.mpr ⟨fun x h110 h82 => by simp [upI, h110, h82, ap_o h110 h82], fun j q44 q45 q46 q48 q49 => by
            have e : ∀ I0 : hI, ap I0 110 82 48 0 [12] 82 j = I0 82 j := fun I0 => ap_n (by decide) q48 rfl
            simp [upI, upd, e, q44, q45, q46, q48, q49]⟩) (ap_c0 (by decide) rfl rfl) (fun i0 hi => ap_g0 (by decide) hi)
      · exact absurd ⟨by decide, by decide⟩ b3
    · exact absurd ⟨by decide, by decide⟩ b2
  · exact absurd ⟨by rw [nI_leI (by omega) (by omega)]; omega, by rw [nI_leI (by omega) (by omega)]; omega⟩ b1
theorem r_act43 {l : Launch} {dp : Nat} {ns nl np ml nk nw : Nat} {pl fa fb sl pp pm ki fr tg wh bw : Nat → Nat} {rs sn : Nat → Int32} {fl : Nat → Bool} {qw : Nat → Nat → Nat → Nat → Bool} {I : hI} {J : hJ} {lt tx : Option Nat} {sk : Nat → Nat} {sm sz : Nat → Int32} {s : Nat} {i : Nat} {z : Int32} {Q : hQ} (hG : rG I ns nl np ml nk nw pl fa fb sl pp pm ki fr tg wh bw rs sn fl qw) (hH : rH I sk sm sz) (hs : s < 4) (hi : i < nk) (e0 : sk s = 0) (e9 : sm s = nI i) (ek : ki i = 4) (hQ : ∀ I', AR I I' → I' 82 48 = nI 7 → (∀ i, i < 7 → I' 110 i = nI (List.getD [51, 13, 20, 11, 50, 10, 12] i 0)) → Q (some (.int (cif (sn i = nI i) (-15) (((((z + (sn i)) ^^^ nI 3) * nI 2 + nI 7) ^^^ (nI i)) + (nI i) / ((sn i) - (nI i)))))) hSH I' J (hRR lt tx))  : HC l mX12_act (dp + 6) 0 0 [.ref 82, .int (nI s), .int (nI 3), .int z] hSH I J (hRR lt tx) Q := by
  refine HC.of (by decide +kernel) rfl (Nat.le_of_ble_eq_true rfl) ?_
  show HV l mX12_act (dp + 6) 0 0 0 [some (.ref 82), some (.int (nI s)), some (.int (nI 3)), some (.int z), none] [] hSH I J (hRR lt tx) Q
  obtain ⟨hN, hw, ⟨hnp, hml, hnk, hpt, hsi⟩, ⟨hn8, hm2, hn24, hpW, hsW⟩, hL⟩ := id hG
  obtain ⟨hns, hnl, hpl, hlg⟩ := id hN
  obtain ⟨hn6, hl12, hW, hp99, hr99⟩ := id hw
  obtain ⟨w1, w2, w3, w4⟩ := hH s hs
  refine h_aload_n dX12_act_0 rfl ?_
  refine h_iconst dX12_act_1 ci_0 ?_
  refine h_putI dX12_act_2 f_X12_361_10 p_X12_10_48 (fun h => by cases h) rfl ?_
  refine h_iload_n dX12_act_5 rfl ?_
  refine h_cS1 dX12_act_6 k6_233 oSX12_isShelf rfl ?_
  refine c_X12_isShelf (fun b1 => ?_) (fun b1 => ?_)
  · refine h_ifeq (tgt := 35) dX12_act_9 rfl (fun c => absurd c (by decide)) (fun _ => ?_)
    refine h_iload_n dX12_act_12 rfl ?_
    refine h_iconst dX12_act_13 ci_0 ?_
    refine h_iconst dX12_act_14 ci_3 ?_
    refine h_cS3 dX12_act_15 k5_172 oSX12_in rfl ?_
    refine c_X12_in (fun b2 => ?_) (fun b2 => ?_)
    · refine h_ifeq (tgt := 35) dX12_act_18 rfl (fun c => absurd c (by decide)) (fun _ => ?_)
      refine h_aload_n dX12_act_21 rfl ?_
      refine h_iload_n dX12_act_22 rfl ?_
      refine h_cV1 dX12_act_23 k7_25 oVX12_kindOn rfl rfl ?_
      refine r_kindA (I := (upI I 82 48 (nI 0))) (k := 4) hG hH hs (.inr ⟨by omega, by omega, i, hi, e0, e9, ek, rfl, rfl⟩) ?_
      refine h_iconst dX12_act_26 ci_1 ?_
      refine h_bipush dX12_act_27 cb_6 ?_
      refine h_cS3 dX12_act_29 k5_172 oSX12_in rfl ?_
      refine c_X12_in (fun b3 => ?_) (fun b3 => ?_)
      · refine h_ifne (tgt := 37) dX12_act_32 rfl (fun _ => ?_) (fun c => absurd c (by decide))
        refine h_aload_n dX12_act_37 rfl ?_
        refine h_aload_n dX12_act_38 rfl ?_
        refine h_iload_n dX12_act_39 rfl ?_
        refine h_cV1 dX12_act_40 k7_25 oVX12_kindOn rfl rfl ?_
        refine r_kindA (I := (upI I 82 48 (nI 0))) (k := 4) hG hH hs (.inr ⟨by omega, by omega, i, hi, e0, e9, ek, rfl, rfl⟩) ?_
        refine h_putI dX12_act_43 f_X12_364_10 p_X12_10_44 (fun h => by cases h) rfl ?_
        refine h_aload_n dX12_act_46 rfl ?_
        refine h_aload_n dX12_act_47 rfl ?_
        refine h_getR dX12_act_48 f_X12_87_10 rfl rfl ?_
        refine h_iload_n dX12_act_51 rfl ?_
        refine h_ialdN (j := s) dX12_act_52 rfl rfl (by omega) rfl ((w3 (by omega)).trans e9) ?_
        refine h_putI dX12_act_53 f_X12_373_10 p_X12_10_45 (fun h => by cases h) rfl ?_
        refine h_aload_n dX12_act_56 rfl ?_
        refine h_aload_n dX12_act_57 rfl ?_
        refine h_getI dX12_act_58 f_X12_364_10 rfl (show _ = nI 4 from rfl) ?_
        refine h_bipush dX12_act_61 cb_6 ?_
        refine h_icmpne (tgt := 82) dX12_act_63 rfl (fun _ => ?_) (fun c => absurd c (by decide))
        refine h_aload_n dX12_act_82 rfl ?_
        refine h_getR dX12_act_83 f_X12_19_10 rfl rfl ?_
        refine h_bipush dX12_act_86 cb_7 ?_
        refine h_aload_n dX12_act_88 rfl ?_
        refine h_getI dX12_act_89 f_X12_373_10 rfl (show _ = nI i from rfl) ?_
        refine h_imulN dX12_act_92 ?_
        refine h_iconst dX12_act_93 ci_3 ?_
        refine h_iaddN dX12_act_94 ?_
        refine h_ialdN (j := (7 * i) + 3) dX12_act_95 rfl rfl (by omega) rfl (hsi i (by omega)).2.2.2.1 ?_
        refine h_putI dX12_act_96 f_X12_370_10 p_X12_10_46 (fun h => by cases h) rfl ?_
        refine h_aload_n dX12_act_99 rfl ?_
        refine h_iconst dX12_act_100 ci_0 ?_
        refine h_putZ dX12_act_101 f_X12_382_10 p_X12_10_49 (fun h => by cases h) rfl (by decide) ?_
        refine h_iload_n dX12_act_104 rfl ?_
        refine h_ifne (tgt := 116) dX12_act_105 rfl (fun _ => ?_) (fun c => absurd c (by decide))
        refine h_iload_n dX12_act_116 rfl ?_
        refine h_iconst dX12_act_117 ci_1 ?_
        refine h_icmpne (tgt := 129) dX12_act_118 rfl (fun _ => ?_) (fun c => absurd c (by decide))
        refine h_iload_n dX12_act_129 rfl ?_
        refine h_iconst dX12_act_130 ci_2 ?_
        refine h_icmpne (tgt := 142) dX12_act_131 rfl (fun _ => ?_) (fun c => absurd c (by decide))
        refine h_aload_n dX12_act_142 rfl ?_
        refine h_iload_n dX12_act_143 rfl ?_
        refine h_cV1 dX12_act_144 k7_60 oVX12_tellsIt rfl rfl ?_
        refine r4_X12_tellsIt (n := nI i) (a := sn i) (j := 0) rfl rfl rfl rfl (by omega) (fun v0 hz => ?_) (fun hz => ?_)
        · refine h_istore dX12_act_147 (Nat.le_of_ble_eq_true rfl) ?_
          refine h_aload_n dX12_act_149 rfl ?_
          refine h_getZ dX12_act_150 f_X12_382_10 rfl (show _ = nI 1 from rfl) ?_
          refine h_ifeq (tgt := 161) dX12_act_153 rfl (fun c => absurd c (by decide)) (fun _ => ?_)
          refine h_bipush dX12_act_156 cb_m15 ?_
          refine h_goto (tgt := 163) dX12_act_158 rfl ?_
          refine h_ireturn dX12_act_163 rfl ?_
          rw [cif_t hz] at hQ
          exact hQ _ (AR_iff.mpr ⟨fun x h110 h82 => by simp [upI, h110, h82, ap_o h110 h82], fun j q44 q45 q46 q48 q49 => by
            have e : ∀ I0 : hI, ap I0 110 82 48 0 [51, 13, 20, 11, 50, 10, 12] 82 j = I0 82 j := fun I0 => ap_n (by decide) q48 rfl
            simp [upI, upd, e, q44, q45, q46, q48, q49]⟩) ((upI_f (by decide)).trans (ap_c0 (by decide) rfl rfl)) (fun i0 hi => (congrFun (upI_n _ _ _ (by decide)) i0).trans (ap_g0 (by decide) hi))
        · refine h_istore dX12_act_147 (Nat.le_of_ble_eq_true rfl) ?_
          refine h_aload_n dX12_act_149 rfl ?_
          refine h_getZ dX12_act_150 f_X12_382_10 rfl (show _ = nI 0 from ap_n (by decide) (by decide) rfl) ?_
          refine h_ifeq (tgt := 161) dX12_act_153 rfl (fun _ => ?_) (fun c => absurd (by decide) c)
          refine h_iload dX12_act_161 rfl ?_
          refine h_ireturn dX12_act_163 rfl ?_
          rw [cif_f hz] at hQ
          exact hQ _ (AR_iff.mpr ⟨fun x h110 h82 => by simp [upI, h110, h82, ap_o h110 h82], fun j q44 q45 q46 q48 q49 => by
            have e : ∀ I0 : hI, ap I0 110 82 48 0 [51, 13, 20, 11, 50, 10, 12] 82 j = I0 82 j := fun I0 => ap_n (by decide) q48 rfl
            simp [upI, upd, e, q44, q45, q46, q48, q49]⟩) (ap_c0 (by decide) rfl rfl) (fun i0 hi => ap_g0 (by decide) hi)
      · exact absurd ⟨by decide, by decide⟩ b3
    · exact absurd ⟨by decide, by decide⟩ b2
  · exact absurd ⟨by rw [nI_leI (by omega) (by omega)]; omega, by rw [nI_leI (by omega) (by omega)]; omega⟩ b1
theorem r_act50 {l : Launch} {dp : Nat} {ns nl np ml nk nw : Nat} {pl fa fb sl pp pm ki fr tg wh bw : Nat → Nat} {rs sn : Nat → Int32} {fl : Nat → Bool} {qw : Nat → Nat → Nat → Nat → Bool} {I : hI} {J : hJ} {lt tx : Option Nat} {sk : Nat → Nat} {sm sz : Nat → Int32} {s : Nat} {i : Nat} {z : Int32} {Q : hQ} (hG : rG I ns nl np ml nk nw pl fa fb sl pp pm ki fr tg wh bw rs sn fl qw) (hH : rH I sk sm sz) (hs : s < 4) (hi : i < nk) (e0 : sk s = 0) (e9 : sm s = nI i) (ek : ki i = 5) (hQ : ∀ I', AR I I' → I' 82 48 = nI 3 → (∀ i, i < 3 → I' 110 i = nI (List.getD [60, 30, 10] i 0)) → Q (some (.int ((nI 0 - (z + (sn i) - (nI i)))))) hSH I' J (hRR lt tx))  : HC l mX12_act (dp + 6) 0 0 [.ref 82, .int (nI s), .int (nI 0), .int z] hSH I J (hRR lt tx) Q := by
  refine HC.of (by decide +kernel) rfl (Nat.le_of_ble_eq_true rfl) ?_
  show HV l mX12_act (dp + 6) 0 0 0 [some (.ref 82), some (.int (nI s)), some (.int (nI 0)), some (.int z), none] [] hSH I J (hRR lt tx) Q
  obtain ⟨hN, hw, ⟨hnp, hml, hnk, hpt, hsi⟩, ⟨hn8, hm2, hn24, hpW, hsW⟩, hL⟩ := id hG
  obtain ⟨hns, hnl, hpl, hlg⟩ := id hN
  obtain ⟨hn6, hl12, hW, hp99, hr99⟩ := id hw
  obtain ⟨w1, w2, w3, w4⟩ := hH s hs
  refine h_aload_n dX12_act_0 rfl ?_
  refine h_iconst dX12_act_1 ci_0 ?_
  refine h_putI dX12_act_2 f_X12_361_10 p_X12_10_48 (fun h => by cases h) rfl ?_
  refine h_iload_n dX12_act_5 rfl ?_
  refine h_cS1 dX12_act_6 k6_233 oSX12_isShelf rfl ?_
  refine c_X12_isShelf (fun b1 => ?_) (fun b1 => ?_)
  · refine h_ifeq (tgt := 35) dX12_act_9 rfl (fun c => absurd c (by decide)) (fun _ => ?_)
    refine h_iload_n dX12_act_12 rfl ?_
    refine h_iconst dX12_act_13 ci_0 ?_
    refine h_iconst dX12_act_14 ci_3 ?_
    refine h_cS3 dX12_act_15 k5_172 oSX12_in rfl ?_
    refine c_X12_in (fun b2 => ?_) (fun b2 => ?_)
    · refine h_ifeq (tgt := 35) dX12_act_18 rfl (fun c => absurd c (by decide)) (fun _ => ?_)
      refine h_aload_n dX12_act_21 rfl ?_
      refine h_iload_n dX12_act_22 rfl ?_
      refine h_cV1 dX12_act_23 k7_25 oVX12_kindOn rfl rfl ?_
      refine r_kindA (I := (upI I 82 48 (nI 0))) (k := 5) hG hH hs (.inr ⟨by omega, by omega, i, hi, e0, e9, ek, rfl, rfl⟩) ?_
      refine h_iconst dX12_act_26 ci_1 ?_
      refine h_bipush dX12_act_27 cb_6 ?_
      refine h_cS3 dX12_act_29 k5_172 oSX12_in rfl ?_
      refine c_X12_in (fun b3 => ?_) (fun b3 => ?_)
      · refine h_ifne (tgt := 37) dX12_act_32 rfl (fun _ => ?_) (fun c => absurd c (by decide))
        refine h_aload_n dX12_act_37 rfl ?_
        refine h_aload_n dX12_act_38 rfl ?_
        refine h_iload_n dX12_act_39 rfl ?_
        refine h_cV1 dX12_act_40 k7_25 oVX12_kindOn rfl rfl ?_
        refine r_kindA (I := (upI I 82 48 (nI 0))) (k := 5) hG hH hs (.inr ⟨by omega, by omega, i, hi, e0, e9, ek, rfl, rfl⟩) ?_
        refine h_putI dX12_act_43 f_X12_364_10 p_X12_10_44 (fun h => by cases h) rfl ?_
        refine h_aload_n dX12_act_46 rfl ?_
        refine h_aload_n dX12_act_47 rfl ?_
        refine h_getR dX12_act_48 f_X12_87_10 rfl rfl ?_
        refine h_iload_n dX12_act_51 rfl ?_
        refine h_ialdN (j := s) dX12_act_52 rfl rfl (by omega) rfl ((w3 (by omega)).trans e9) ?_
        refine h_putI dX12_act_53 f_X12_373_10 p_X12_10_45 (fun h => by cases h) rfl ?_
        refine h_aload_n dX12_act_56 rfl ?_
        refine h_aload_n dX12_act_57 rfl ?_
        refine h_getI dX12_act_58 f_X12_364_10 rfl (show _ = nI 5 from rfl) ?_
        refine h_bipush dX12_act_61 cb_6 ?_
        refine h_icmpne (tgt := 82) dX12_act_63 rfl (fun _ => ?_) (fun c => absurd c (by decide))
        refine h_aload_n dX12_act_82 rfl ?_
        refine h_getR dX12_act_83 f_X12_19_10 rfl rfl ?_
        refine h_bipush dX12_act_86 cb_7 ?_
        refine h_aload_n dX12_act_88 rfl ?_
        refine h_getI dX12_act_89 f_X12_373_10 rfl (show _ = nI i from rfl) ?_
        refine h_imulN dX12_act_92 ?_
        refine h_iconst dX12_act_93 ci_3 ?_
        refine h_iaddN dX12_act_94 ?_
        refine h_ialdN (j := (7 * i) + 3) dX12_act_95 rfl rfl (by omega) rfl (hsi i (by omega)).2.2.2.1 ?_
        refine h_putI dX12_act_96 f_X12_370_10 p_X12_10_46 (fun h => by cases h) rfl ?_
        refine h_aload_n dX12_act_99 rfl ?_
        refine h_iconst dX12_act_100 ci_0 ?_
        refine h_putZ dX12_act_101 f_X12_382_10 p_X12_10_49 (fun h => by cases h) rfl (by decide) ?_
        refine h_iload_n dX12_act_104 rfl ?_
        refine h_ifne (tgt := 116) dX12_act_105 rfl (fun c => absurd (by decide) c) (fun _ => ?_)
        refine h_aload_n dX12_act_108 rfl ?_
        refine h_iload_n dX12_act_109 rfl ?_
        refine h_cV1 dX12_act_110 k7_36 oVX12_seesIt rfl rfl ?_
        refine r5_X12_seesIt (n := nI i) (a := sn i) (j := 0) rfl rfl rfl rfl (by omega) ?_
        refine h_goto (tgt := 147) dX12_act_113 rfl ?_
        refine h_istore dX12_act_147 (Nat.le_of_ble_eq_true rfl) ?_
        refine h_aload_n dX12_act_149 rfl ?_
        refine h_getZ dX12_act_150 f_X12_382_10 rfl (show _ = nI 0 from ap_n (by decide) (by decide) rfl) ?_
        refine h_ifeq (tgt := 161) dX12_act_153 rfl (fun _ => ?_) (fun c => absurd (by decide) c)
        refine h_iload dX12_act_161 rfl ?_
        refine h_ireturn dX12_act_163 rfl ?_
        exact hQ _ (AR_iff.mpr ⟨fun x h110 h82 => by simp [upI, h110, h82, ap_o h110 h82], fun j q44 q45 q46 q48 q49 => by
          have e : ∀ I0 : hI, ap I0 110 82 48 0 [60, 30, 10] 82 j = I0 82 j := fun I0 => ap_n (by decide) q48 rfl
          simp [upI, upd, e, q44, q45, q46, q48, q49]⟩) (ap_c0 (by decide) rfl rfl) (fun i0 hi => ap_g0 (by decide) hi)
      · exact absurd ⟨by decide, by decide⟩ b3
    · exact absurd ⟨by decide, by decide⟩ b2
  · exact absurd ⟨by rw [nI_leI (by omega) (by omega)]; omega, by rw [nI_leI (by omega) (by omega)]; omega⟩ b1
theorem r_act51 {l : Launch} {dp : Nat} {ns nl np ml nk nw : Nat} {pl fa fb sl pp pm ki fr tg wh bw : Nat → Nat} {rs sn : Nat → Int32} {fl : Nat → Bool} {qw : Nat → Nat → Nat → Nat → Bool} {I : hI} {J : hJ} {lt tx : Option Nat} {sk : Nat → Nat} {sm sz : Nat → Int32} {s : Nat} {i : Nat} {z : Int32} {Q : hQ} (hG : rG I ns nl np ml nk nw pl fa fb sl pp pm ki fr tg wh bw rs sn fl qw) (hH : rH I sk sm sz) (hs : s < 4) (hi : i < nk) (e0 : sk s = 0) (e9 : sm s = nI i) (ek : ki i = 5) (hQ : ∀ I', AR I I' → I' 82 48 = nI 8 → (∀ i, i < 8 → I' 110 i = nI (List.getD [61, 11, 60, 30, 10, 60, 30, 10] i 0)) → Q (some (.int (((nI 0 - (z + (sn i) - (nI i))) * nI 2 + (nI 0 - ((nI i) + (sn i) - (nI i))))))) hSH I' J (hRR lt tx))  : HC l mX12_act (dp + 6) 0 0 [.ref 82, .int (nI s), .int (nI 1), .int z] hSH I J (hRR lt tx) Q := by
  refine HC.of (by decide +kernel) rfl (Nat.le_of_ble_eq_true rfl) ?_
  show HV l mX12_act (dp + 6) 0 0 0 [some (.ref 82), some (.int (nI s)), some (.int (nI 1)), some (.int z), none] [] hSH I J (hRR lt tx) Q
  obtain ⟨hN, hw, ⟨hnp, hml, hnk, hpt, hsi⟩, ⟨hn8, hm2, hn24, hpW, hsW⟩, hL⟩ := id hG
  obtain ⟨hns, hnl, hpl, hlg⟩ := id hN
  obtain ⟨hn6, hl12, hW, hp99, hr99⟩ := id hw
  obtain ⟨w1, w2, w3, w4⟩ := hH s hs
  refine h_aload_n dX12_act_0 rfl ?_
  refine h_iconst dX12_act_1 ci_0 ?_
  refine h_putI dX12_act_2 f_X12_361_10 p_X12_10_48 (fun h => by cases h) rfl ?_
  refine h_iload_n dX12_act_5 rfl ?_
  refine h_cS1 dX12_act_6 k6_233 oSX12_isShelf rfl ?_
  refine c_X12_isShelf (fun b1 => ?_) (fun b1 => ?_)
  · refine h_ifeq (tgt := 35) dX12_act_9 rfl (fun c => absurd c (by decide)) (fun _ => ?_)
    refine h_iload_n dX12_act_12 rfl ?_
    refine h_iconst dX12_act_13 ci_0 ?_
    refine h_iconst dX12_act_14 ci_3 ?_
    refine h_cS3 dX12_act_15 k5_172 oSX12_in rfl ?_
    refine c_X12_in (fun b2 => ?_) (fun b2 => ?_)
    · refine h_ifeq (tgt := 35) dX12_act_18 rfl (fun c => absurd c (by decide)) (fun _ => ?_)
      refine h_aload_n dX12_act_21 rfl ?_
      refine h_iload_n dX12_act_22 rfl ?_
      refine h_cV1 dX12_act_23 k7_25 oVX12_kindOn rfl rfl ?_
      refine r_kindA (I := (upI I 82 48 (nI 0))) (k := 5) hG hH hs (.inr ⟨by omega, by omega, i, hi, e0, e9, ek, rfl, rfl⟩) ?_
      refine h_iconst dX12_act_26 ci_1 ?_
      refine h_bipush dX12_act_27 cb_6 ?_
      refine h_cS3 dX12_act_29 k5_172 oSX12_in rfl ?_
      refine c_X12_in (fun b3 => ?_) (fun b3 => ?_)
      · refine h_ifne (tgt := 37) dX12_act_32 rfl (fun _ => ?_) (fun c => absurd c (by decide))
        refine h_aload_n dX12_act_37 rfl ?_
        refine h_aload_n dX12_act_38 rfl ?_
        refine h_iload_n dX12_act_39 rfl ?_
        refine h_cV1 dX12_act_40 k7_25 oVX12_kindOn rfl rfl ?_
        refine r_kindA (I := (upI I 82 48 (nI 0))) (k := 5) hG hH hs (.inr ⟨by omega, by omega, i, hi, e0, e9, ek, rfl, rfl⟩) ?_
        refine h_putI dX12_act_43 f_X12_364_10 p_X12_10_44 (fun h => by cases h) rfl ?_
        refine h_aload_n dX12_act_46 rfl ?_
        refine h_aload_n dX12_act_47 rfl ?_
        refine h_getR dX12_act_48 f_X12_87_10 rfl rfl ?_
        refine h_iload_n dX12_act_51 rfl ?_
        refine h_ialdN (j := s) dX12_act_52 rfl rfl (by omega) rfl ((w3 (by omega)).trans e9) ?_
        refine h_putI dX12_act_53 f_X12_373_10 p_X12_10_45 (fun h => by cases h) rfl ?_
        refine h_aload_n dX12_act_56 rfl ?_
        refine h_aload_n dX12_act_57 rfl ?_
        refine h_getI dX12_act_58 f_X12_364_10 rfl (show _ = nI 5 from rfl) ?_
        refine h_bipush dX12_act_61 cb_6 ?_
        refine h_icmpne (tgt := 82) dX12_act_63 rfl (fun _ => ?_) (fun c => absurd c (by decide))
        refine h_aload_n dX12_act_82 rfl ?_
        refine h_getR dX12_act_83 f_X12_19_10 rfl rfl ?_
        refine h_bipush dX12_act_86 cb_7 ?_
        refine h_aload_n dX12_act_88 rfl ?_
        refine h_getI dX12_act_89 f_X12_373_10 rfl (show _ = nI i from rfl) ?_
        refine h_imulN dX12_act_92 ?_
        refine h_iconst dX12_act_93 ci_3 ?_
        refine h_iaddN dX12_act_94 ?_
        refine h_ialdN (j := (7 * i) + 3) dX12_act_95 rfl rfl (by omega) rfl (hsi i (by omega)).2.2.2.1 ?_
        refine h_putI dX12_act_96 f_X12_370_10 p_X12_10_46 (fun h => by cases h) rfl ?_
        refine h_aload_n dX12_act_99 rfl ?_
        refine h_iconst dX12_act_100 ci_0 ?_
        refine h_putZ dX12_act_101 f_X12_382_10 p_X12_10_49 (fun h => by cases h) rfl (by decide) ?_
        refine h_iload_n dX12_act_104 rfl ?_
        refine h_ifne (tgt := 116) dX12_act_105 rfl (fun _ => ?_) (fun c => absurd c (by decide))
        refine h_iload_n dX12_act_116 rfl ?_
        refine h_iconst dX12_act_117 ci_1 ?_
        refine h_icmpne (tgt := 129) dX12_act_118 rfl (fun c => absurd (by decide) c) (fun _ => ?_)
        refine h_aload_n dX12_act_121 rfl ?_
        refine h_iload_n dX12_act_122 rfl ?_
        refine h_cV1 dX12_act_123 k7_44 oVX12_bendsIt rfl rfl ?_
        refine r5_X12_bendsIt (n := nI i) (a := sn i) (j := 0) rfl rfl rfl rfl (by omega) ?_
        refine h_goto (tgt := 147) dX12_act_126 rfl ?_
        refine h_istore dX12_act_147 (Nat.le_of_ble_eq_true rfl) ?_
        refine h_aload_n dX12_act_149 rfl ?_
        refine h_getZ dX12_act_150 f_X12_382_10 rfl (show _ = nI 0 from ap_n (by decide) (by decide) rfl) ?_
        refine h_ifeq (tgt := 161) dX12_act_153 rfl (fun _ => ?_) (fun c => absurd (by decide) c)
        refine h_iload dX12_act_161 rfl ?_
        refine h_ireturn dX12_act_163 rfl ?_
        exact hQ _ (AR_iff.mpr ⟨fun x h110 h82 => by simp [upI, h110, h82, ap_o h110 h82], fun j q44 q45 q46 q48 q49 => by
          have e : ∀ I0 : hI, ap I0 110 82 48 0 [61, 11, 60, 30, 10, 60, 30, 10] 82 j = I0 82 j := fun I0 => ap_n (by decide) q48 rfl
          simp [upI, upd, e, q44, q45, q46, q48, q49]⟩) (ap_c0 (by decide) rfl rfl) (fun i0 hi => ap_g0 (by decide) hi)
      · exact absurd ⟨by decide, by decide⟩ b3
    · exact absurd ⟨by decide, by decide⟩ b2
  · exact absurd ⟨by rw [nI_leI (by omega) (by omega)]; omega, by rw [nI_leI (by omega) (by omega)]; omega⟩ b1
theorem r_act52 {l : Launch} {dp : Nat} {ns nl np ml nk nw : Nat} {pl fa fb sl pp pm ki fr tg wh bw : Nat → Nat} {rs sn : Nat → Int32} {fl : Nat → Bool} {qw : Nat → Nat → Nat → Nat → Bool} {I : hI} {J : hJ} {lt tx : Option Nat} {sk : Nat → Nat} {sm sz : Nat → Int32} {s : Nat} {i : Nat} {z : Int32} {Q : hQ} (hG : rG I ns nl np ml nk nw pl fa fb sl pp pm ki fr tg wh bw rs sn fl qw) (hH : rH I sk sm sz) (hs : s < 4) (hi : i < nk) (e0 : sk s = 0) (e9 : sm s = nI i) (ek : ki i = 5) (hQ : ∀ I', AR I I' → I' 82 48 = nI 1 → (∀ i, i < 1 → I' 110 i = nI (List.getD [12] i 0)) → Q (some (.int (cif (sn i = nI i) (-15) (z / ((sn i) - (nI i)))))) hSH I' J (hRR lt tx))  : HC l mX12_act (dp + 6) 0 0 [.ref 82, .int (nI s), .int (nI 2), .int z] hSH I J (hRR lt tx) Q := by
  refine HC.of (by decide +kernel) rfl (Nat.le_of_ble_eq_true rfl) ?_
  show HV l mX12_act (dp + 6) 0 0 0 [some (.ref 82), some (.int (nI s)), some (.int (nI 2)), some (.int z), none] [] hSH I J (hRR lt tx) Q
  obtain ⟨hN, hw, ⟨hnp, hml, hnk, hpt, hsi⟩, ⟨hn8, hm2, hn24, hpW, hsW⟩, hL⟩ := id hG
  obtain ⟨hns, hnl, hpl, hlg⟩ := id hN
  obtain ⟨hn6, hl12, hW, hp99, hr99⟩ := id hw
  obtain ⟨w1, w2, w3, w4⟩ := hH s hs
  refine h_aload_n dX12_act_0 rfl ?_
  refine h_iconst dX12_act_1 ci_0 ?_
  refine h_putI dX12_act_2 f_X12_361_10 p_X12_10_48 (fun h => by cases h) rfl ?_
  refine h_iload_n dX12_act_5 rfl ?_
  refine h_cS1 dX12_act_6 k6_233 oSX12_isShelf rfl ?_
  refine c_X12_isShelf (fun b1 => ?_) (fun b1 => ?_)
  · refine h_ifeq (tgt := 35) dX12_act_9 rfl (fun c => absurd c (by decide)) (fun _ => ?_)
    refine h_iload_n dX12_act_12 rfl ?_
    refine h_iconst dX12_act_13 ci_0 ?_
    refine h_iconst dX12_act_14 ci_3 ?_
    refine h_cS3 dX12_act_15 k5_172 oSX12_in rfl ?_
    refine c_X12_in (fun b2 => ?_) (fun b2 => ?_)
    · refine h_ifeq (tgt := 35) dX12_act_18 rfl (fun c => absurd c (by decide)) (fun _ => ?_)
      refine h_aload_n dX12_act_21 rfl ?_
      refine h_iload_n dX12_act_22 rfl ?_
      refine h_cV1 dX12_act_23 k7_25 oVX12_kindOn rfl rfl ?_
      refine r_kindA (I := (upI I 82 48 (nI 0))) (k := 5) hG hH hs (.inr ⟨by omega, by omega, i, hi, e0, e9, ek, rfl, rfl⟩) ?_
      refine h_iconst dX12_act_26 ci_1 ?_
      refine h_bipush dX12_act_27 cb_6 ?_
      refine h_cS3 dX12_act_29 k5_172 oSX12_in rfl ?_
      refine c_X12_in (fun b3 => ?_) (fun b3 => ?_)
      · refine h_ifne (tgt := 37) dX12_act_32 rfl (fun _ => ?_) (fun c => absurd c (by decide))
        refine h_aload_n dX12_act_37 rfl ?_
        refine h_aload_n dX12_act_38 rfl ?_
        refine h_iload_n dX12_act_39 rfl ?_
        refine h_cV1 dX12_act_40 k7_25 oVX12_kindOn rfl rfl ?_
        refine r_kindA (I := (upI I 82 48 (nI 0))) (k := 5) hG hH hs (.inr ⟨by omega, by omega, i, hi, e0, e9, ek, rfl, rfl⟩) ?_
        refine h_putI dX12_act_43 f_X12_364_10 p_X12_10_44 (fun h => by cases h) rfl ?_
        refine h_aload_n dX12_act_46 rfl ?_
        refine h_aload_n dX12_act_47 rfl ?_
        refine h_getR dX12_act_48 f_X12_87_10 rfl rfl ?_
        refine h_iload_n dX12_act_51 rfl ?_
        refine h_ialdN (j := s) dX12_act_52 rfl rfl (by omega) rfl ((w3 (by omega)).trans e9) ?_
        refine h_putI dX12_act_53 f_X12_373_10 p_X12_10_45 (fun h => by cases h) rfl ?_
        refine h_aload_n dX12_act_56 rfl ?_
        refine h_aload_n dX12_act_57 rfl ?_
        refine h_getI dX12_act_58 f_X12_364_10 rfl (show _ = nI 5 from rfl) ?_
        refine h_bipush dX12_act_61 cb_6 ?_
        refine h_icmpne (tgt := 82) dX12_act_63 rfl (fun _ => ?_) (fun c => absurd c (by decide))
        refine h_aload_n dX12_act_82 rfl ?_
        refine h_getR dX12_act_83 f_X12_19_10 rfl rfl ?_
        refine h_bipush dX12_act_86 cb_7 ?_
        refine h_aload_n dX12_act_88 rfl ?_
        refine h_getI dX12_act_89 f_X12_373_10 rfl (show _ = nI i from rfl) ?_
        refine h_imulN dX12_act_92 ?_
        refine h_iconst dX12_act_93 ci_3 ?_
        refine h_iaddN dX12_act_94 ?_
        refine h_ialdN (j := (7 * i) + 3) dX12_act_95 rfl rfl (by omega) rfl (hsi i (by omega)).2.2.2.1 ?_
        refine h_putI dX12_act_96 f_X12_370_10 p_X12_10_46 (fun h => by cases h) rfl ?_
        refine h_aload_n dX12_act_99 rfl ?_
        refine h_iconst dX12_act_100 ci_0 ?_
        refine h_putZ dX12_act_101 f_X12_382_10 p_X12_10_49 (fun h => by cases h) rfl (by decide) ?_
        refine h_iload_n dX12_act_104 rfl ?_
        refine h_ifne (tgt := 116) dX12_act_105 rfl (fun _ => ?_) (fun c => absurd c (by decide))
        refine h_iload_n dX12_act_116 rfl ?_
        refine h_iconst dX12_act_117 ci_1 ?_
        refine h_icmpne (tgt := 129) dX12_act_118 rfl (fun _ => ?_) (fun c => absurd c (by decide))
        refine h_iload_n dX12_act_129 rfl ?_
        refine h_iconst dX12_act_130 ci_2 ?_
        refine h_icmpne (tgt := 142) dX12_act_131 rfl (fun c => absurd (by decide) c) (fun _ => ?_)
        refine h_aload_n dX12_act_134 rfl ?_
        refine h_iload_n dX12_act_135 rfl ?_
        refine h_cV1 dX12_act_136 k7_52 oVX12_leansIt rfl rfl ?_
        refine r5_X12_leansIt (n := nI i) (a := sn i) (j := 0) rfl rfl rfl rfl (by omega) (fun v0 hz => ?_) (fun hz => ?_)
        · refine h_goto (tgt := 147) dX12_act_139 rfl ?_
          refine h_istore dX12_act_147 (Nat.le_of_ble_eq_true rfl) ?_
          refine h_aload_n dX12_act_149 rfl ?_
          refine h_getZ dX12_act_150 f_X12_382_10 rfl (show _ = nI 1 from rfl) ?_
          refine h_ifeq (tgt := 161) dX12_act_153 rfl (fun c => absurd c (by decide)) (fun _ => ?_)
          refine h_bipush dX12_act_156 cb_m15 ?_
          refine h_goto (tgt := 163) dX12_act_158 rfl ?_
          refine h_ireturn dX12_act_163 rfl ?_
          rw [cif_t hz] at hQ
          exact hQ _ (AR_iff.mpr ⟨fun x h110 h82 => by simp [upI, h110, h82, ap_o h110 h82], fun j q44 q45 q46 q48 q49 => by
            have e : ∀ I0 : hI, ap I0 110 82 48 0 [12] 82 j = I0 82 j := fun I0 => ap_n (by decide) q48 rfl
            simp [upI, upd, e, q44, q45, q46, q48, q49]⟩) ((upI_f (by decide)).trans (ap_c0 (by decide) rfl rfl)) (fun i0 hi => (congrFun (upI_n _ _ _ (by decide)) i0).trans (ap_g0 (by decide) hi))
        · refine h_goto (tgt := 147) dX12_act_139 rfl ?_
          refine h_istore dX12_act_147 (Nat.le_of_ble_eq_true rfl) ?_
          refine h_aload_n dX12_act_149 rfl ?_
          refine h_getZ dX12_act_150 f_X12_382_10 rfl (show _ = nI 0 from ap_n (by decide) (by decide) rfl) ?_
          refine h_ifeq (tgt := 161) dX12_act_153 rfl (fun _ => ?_) (fun c => absurd (by decide) c)
          refine h_iload dX12_act_161 rfl ?_
          refine h_ireturn dX12_act_163 rfl ?_
          rw [cif_f hz] at hQ
          exact hQ _ (AR_iff.mpr ⟨fun x h110 h82 => by simp [upI, h110, h82, ap_o h110 h82], fun j q44 q45 q46 q48 q49 => by
            have e : ∀ I0 : hI, ap I0 110 82 48 0 [12] 82 j = I0 82 j := fun I0 => ap_n (by decide) q48 rfl
            simp [upI, upd, e, q44, q45, q46, q48, q49]⟩) (ap_c0 (by decide) rfl rfl) (fun i0 hi => ap_g0 (by decide) hi)
      · exact absurd ⟨by decide, by decide⟩ b3
    · exact absurd ⟨by decide, by decide⟩ b2
  · exact absurd ⟨by rw [nI_leI (by omega) (by omega)]; omega, by rw [nI_leI (by omega) (by omega)]; omega⟩ b1
theorem r_act53 {l : Launch} {dp : Nat} {ns nl np ml nk nw : Nat} {pl fa fb sl pp pm ki fr tg wh bw : Nat → Nat} {rs sn : Nat → Int32} {fl : Nat → Bool} {qw : Nat → Nat → Nat → Nat → Bool} {I : hI} {J : hJ} {lt tx : Option Nat} {sk : Nat → Nat} {sm sz : Nat → Int32} {s : Nat} {i : Nat} {z : Int32} {Q : hQ} (hG : rG I ns nl np ml nk nw pl fa fb sl pp pm ki fr tg wh bw rs sn fl qw) (hH : rH I sk sm sz) (hs : s < 4) (hi : i < nk) (e0 : sk s = 0) (e9 : sm s = nI i) (ek : ki i = 5) (hQ : ∀ I', AR I I' → I' 82 48 = nI 9 → (∀ i, i < 9 → I' 110 i = nI (List.getD [13, 61, 11, 60, 30, 10, 60, 30, 10] i 0)) → Q (some (.int ((((nI 0 - (z + (sn i) - (nI i))) * nI 2 + (nI 0 - ((nI i) + (sn i) - (nI i)))) ^^^ (nI i))))) hSH I' J (hRR lt tx))  : HC l mX12_act (dp + 6) 0 0 [.ref 82, .int (nI s), .int (nI 3), .int z] hSH I J (hRR lt tx) Q := by
  refine HC.of (by decide +kernel) rfl (Nat.le_of_ble_eq_true rfl) ?_
  show HV l mX12_act (dp + 6) 0 0 0 [some (.ref 82), some (.int (nI s)), some (.int (nI 3)), some (.int z), none] [] hSH I J (hRR lt tx) Q
  obtain ⟨hN, hw, ⟨hnp, hml, hnk, hpt, hsi⟩, ⟨hn8, hm2, hn24, hpW, hsW⟩, hL⟩ := id hG
  obtain ⟨hns, hnl, hpl, hlg⟩ := id hN
  obtain ⟨hn6, hl12, hW, hp99, hr99⟩ := id hw
  obtain ⟨w1, w2, w3, w4⟩ := hH s hs
  refine h_aload_n dX12_act_0 rfl ?_
  refine h_iconst dX12_act_1 ci_0 ?_
  refine h_putI dX12_act_2 f_X12_361_10 p_X12_10_48 (fun h => by cases h) rfl ?_
  refine h_iload_n dX12_act_5 rfl ?_
  refine h_cS1 dX12_act_6 k6_233 oSX12_isShelf rfl ?_
  refine c_X12_isShelf (fun b1 => ?_) (fun b1 => ?_)
  · refine h_ifeq (tgt := 35) dX12_act_9 rfl (fun c => absurd c (by decide)) (fun _ => ?_)
    refine h_iload_n dX12_act_12 rfl ?_
    refine h_iconst dX12_act_13 ci_0 ?_
    refine h_iconst dX12_act_14 ci_3 ?_
    refine h_cS3 dX12_act_15 k5_172 oSX12_in rfl ?_
    refine c_X12_in (fun b2 => ?_) (fun b2 => ?_)
    · refine h_ifeq (tgt := 35) dX12_act_18 rfl (fun c => absurd c (by decide)) (fun _ => ?_)
      refine h_aload_n dX12_act_21 rfl ?_
      refine h_iload_n dX12_act_22 rfl ?_
      refine h_cV1 dX12_act_23 k7_25 oVX12_kindOn rfl rfl ?_
      refine r_kindA (I := (upI I 82 48 (nI 0))) (k := 5) hG hH hs (.inr ⟨by omega, by omega, i, hi, e0, e9, ek, rfl, rfl⟩) ?_
      refine h_iconst dX12_act_26 ci_1 ?_
      refine h_bipush dX12_act_27 cb_6 ?_
      refine h_cS3 dX12_act_29 k5_172 oSX12_in rfl ?_
      refine c_X12_in (fun b3 => ?_) (fun b3 => ?_)
      · refine h_ifne (tgt := 37) dX12_act_32 rfl (fun _ => ?_) (fun c => absurd c (by decide))
        refine h_aload_n dX12_act_37 rfl ?_
        refine h_aload_n dX12_act_38 rfl ?_
        refine h_iload_n dX12_act_39 rfl ?_
        refine h_cV1 dX12_act_40 k7_25 oVX12_kindOn rfl rfl ?_
        refine r_kindA (I := (upI I 82 48 (nI 0))) (k := 5) hG hH hs (.inr ⟨by omega, by omega, i, hi, e0, e9, ek, rfl, rfl⟩) ?_
        refine h_putI dX12_act_43 f_X12_364_10 p_X12_10_44 (fun h => by cases h) rfl ?_
        refine h_aload_n dX12_act_46 rfl ?_
        refine h_aload_n dX12_act_47 rfl ?_
        refine h_getR dX12_act_48 f_X12_87_10 rfl rfl ?_
        refine h_iload_n dX12_act_51 rfl ?_
        refine h_ialdN (j := s) dX12_act_52 rfl rfl (by omega) rfl ((w3 (by omega)).trans e9) ?_
        refine h_putI dX12_act_53 f_X12_373_10 p_X12_10_45 (fun h => by cases h) rfl ?_
        refine h_aload_n dX12_act_56 rfl ?_
        refine h_aload_n dX12_act_57 rfl ?_
        refine h_getI dX12_act_58 f_X12_364_10 rfl (show _ = nI 5 from rfl) ?_
        refine h_bipush dX12_act_61 cb_6 ?_
        refine h_icmpne (tgt := 82) dX12_act_63 rfl (fun _ => ?_) (fun c => absurd c (by decide))
        refine h_aload_n dX12_act_82 rfl ?_
        refine h_getR dX12_act_83 f_X12_19_10 rfl rfl ?_
        refine h_bipush dX12_act_86 cb_7 ?_
        refine h_aload_n dX12_act_88 rfl ?_
        refine h_getI dX12_act_89 f_X12_373_10 rfl (show _ = nI i from rfl) ?_
        refine h_imulN dX12_act_92 ?_
        refine h_iconst dX12_act_93 ci_3 ?_
        refine h_iaddN dX12_act_94 ?_
        refine h_ialdN (j := (7 * i) + 3) dX12_act_95 rfl rfl (by omega) rfl (hsi i (by omega)).2.2.2.1 ?_
        refine h_putI dX12_act_96 f_X12_370_10 p_X12_10_46 (fun h => by cases h) rfl ?_
        refine h_aload_n dX12_act_99 rfl ?_
        refine h_iconst dX12_act_100 ci_0 ?_
        refine h_putZ dX12_act_101 f_X12_382_10 p_X12_10_49 (fun h => by cases h) rfl (by decide) ?_
        refine h_iload_n dX12_act_104 rfl ?_
        refine h_ifne (tgt := 116) dX12_act_105 rfl (fun _ => ?_) (fun c => absurd c (by decide))
        refine h_iload_n dX12_act_116 rfl ?_
        refine h_iconst dX12_act_117 ci_1 ?_
        refine h_icmpne (tgt := 129) dX12_act_118 rfl (fun _ => ?_) (fun c => absurd c (by decide))
        refine h_iload_n dX12_act_129 rfl ?_
        refine h_iconst dX12_act_130 ci_2 ?_
        refine h_icmpne (tgt := 142) dX12_act_131 rfl (fun _ => ?_) (fun c => absurd c (by decide))
        refine h_aload_n dX12_act_142 rfl ?_
        refine h_iload_n dX12_act_143 rfl ?_
        refine h_cV1 dX12_act_144 k7_60 oVX12_tellsIt rfl rfl ?_
        refine r5_X12_tellsIt (n := nI i) (a := sn i) (j := 0) rfl rfl rfl rfl (by omega) ?_
        refine h_istore dX12_act_147 (Nat.le_of_ble_eq_true rfl) ?_
        refine h_aload_n dX12_act_149 rfl ?_
        refine h_getZ dX12_act_150 f_X12_382_10 rfl (show _ = nI 0 from ap_n (by decide) (by decide) rfl) ?_
        refine h_ifeq (tgt := 161) dX12_act_153 rfl (fun _ => ?_) (fun c => absurd (by decide) c)
        refine h_iload dX12_act_161 rfl ?_
        refine h_ireturn dX12_act_163 rfl ?_
        exact hQ _ (AR_iff.mpr ⟨fun x h110 h82 => by simp [upI, h110, h82, ap_o h110 h82], fun j q44 q45 q46 q48 q49 => by
          have e : ∀ I0 : hI, ap I0 110 82 48 0 [13, 61, 11, 60, 30, 10, 60, 30, 10] 82 j = I0 82 j := fun I0 => ap_n (by decide) q48 rfl
          simp [upI, upd, e, q44, q45, q46, q48, q49]⟩) (ap_c0 (by decide) rfl rfl) (fun i0 hi => ap_g0 (by decide) hi)
      · exact absurd ⟨by decide, by decide⟩ b3
    · exact absurd ⟨by decide, by decide⟩ b2
  · exact absurd ⟨by rw [nI_leI (by omega) (by omega)]; omega, by rw [nI_leI (by omega) (by omega)]; omega⟩ b1
theorem r_act60 {l : Launch} {dp : Nat} {ns nl np ml nk nw : Nat} {pl fa fb sl pp pm ki fr tg wh bw : Nat → Nat} {rs sn : Nat → Int32} {fl : Nat → Bool} {qw : Nat → Nat → Nat → Nat → Bool} {I : hI} {J : hJ} {lt tx : Option Nat} {sk : Nat → Nat} {sm sz : Nat → Int32} {s : Nat} {p : Nat} {z : Int32} {Q : hQ} (hG : rG I ns nl np ml nk nw pl fa fb sl pp pm ki fr tg wh bw rs sn fl qw) (hH : rH I sk sm sz) (hs : s < 4) (hp : p < np) (e0 : sk s = 1) (e9 : sm s = nI p) (hQ : ∀ I', AR I I' → I' 82 48 = nI 1 → (∀ i, i < 1 → I' 110 i = nI (List.getD [70] i 0)) → Q (some (.int ((z * (nI (pm p)))))) hSH I' J (hRR lt tx))  : HC l mX12_act (dp + 6) 0 0 [.ref 82, .int (nI s), .int (nI 0), .int z] hSH I J (hRR lt tx) Q := by
  refine HC.of (by decide +kernel) rfl (Nat.le_of_ble_eq_true rfl) ?_
  show HV l mX12_act (dp + 6) 0 0 0 [some (.ref 82), some (.int (nI s)), some (.int (nI 0)), some (.int z), none] [] hSH I J (hRR lt tx) Q
  obtain ⟨hN, hw, ⟨hnp, hml, hnk, hpt, hsi⟩, ⟨hn8, hm2, hn24, hpW, hsW⟩, hL⟩ := id hG
  obtain ⟨hns, hnl, hpl, hlg⟩ := id hN
  obtain ⟨hn6, hl12, hW, hp99, hr99⟩ := id hw
  obtain ⟨w1, w2, w3, w4⟩ := hH s hs
  refine h_aload_n dX12_act_0 rfl ?_
  refine h_iconst dX12_act_1 ci_0 ?_
  refine h_putI dX12_act_2 f_X12_361_10 p_X12_10_48 (fun h => by cases h) rfl ?_
  refine h_iload_n dX12_act_5 rfl ?_
  refine h_cS1 dX12_act_6 k6_233 oSX12_isShelf rfl ?_
  refine c_X12_isShelf (fun b1 => ?_) (fun b1 => ?_)
  · refine h_ifeq (tgt := 35) dX12_act_9 rfl (fun c => absurd c (by decide)) (fun _ => ?_)
    refine h_iload_n dX12_act_12 rfl ?_
    refine h_iconst dX12_act_13 ci_0 ?_
    refine h_iconst dX12_act_14 ci_3 ?_
    refine h_cS3 dX12_act_15 k5_172 oSX12_in rfl ?_
    refine c_X12_in (fun b2 => ?_) (fun b2 => ?_)
    · refine h_ifeq (tgt := 35) dX12_act_18 rfl (fun c => absurd c (by decide)) (fun _ => ?_)
      refine h_aload_n dX12_act_21 rfl ?_
      refine h_iload_n dX12_act_22 rfl ?_
      refine h_cV1 dX12_act_23 k7_25 oVX12_kindOn rfl rfl ?_
      refine r_kindA (I := (upI I 82 48 (nI 0))) (k := 6) hG hH hs (.inl ⟨rfl, p, hp, e0, e9, rfl, rfl⟩) ?_
      refine h_iconst dX12_act_26 ci_1 ?_
      refine h_bipush dX12_act_27 cb_6 ?_
      refine h_cS3 dX12_act_29 k5_172 oSX12_in rfl ?_
      refine c_X12_in (fun b3 => ?_) (fun b3 => ?_)
      · refine h_ifne (tgt := 37) dX12_act_32 rfl (fun _ => ?_) (fun c => absurd c (by decide))
        refine h_aload_n dX12_act_37 rfl ?_
        refine h_aload_n dX12_act_38 rfl ?_
        refine h_iload_n dX12_act_39 rfl ?_
        refine h_cV1 dX12_act_40 k7_25 oVX12_kindOn rfl rfl ?_
        refine r_kindA (I := (upI I 82 48 (nI 0))) (k := 6) hG hH hs (.inl ⟨rfl, p, hp, e0, e9, rfl, rfl⟩) ?_
        refine h_putI dX12_act_43 f_X12_364_10 p_X12_10_44 (fun h => by cases h) rfl ?_
        refine h_aload_n dX12_act_46 rfl ?_
        refine h_aload_n dX12_act_47 rfl ?_
        refine h_getR dX12_act_48 f_X12_87_10 rfl rfl ?_
        refine h_iload_n dX12_act_51 rfl ?_
        refine h_ialdN (j := s) dX12_act_52 rfl rfl (by omega) rfl ((w3 (by omega)).trans e9) ?_
        refine h_putI dX12_act_53 f_X12_373_10 p_X12_10_45 (fun h => by cases h) rfl ?_
        refine h_aload_n dX12_act_56 rfl ?_
        refine h_aload_n dX12_act_57 rfl ?_
        refine h_getI dX12_act_58 f_X12_364_10 rfl (show _ = nI 6 from rfl) ?_
        refine h_bipush dX12_act_61 cb_6 ?_
        refine h_icmpne (tgt := 82) dX12_act_63 rfl (fun c => absurd (by decide) c) (fun _ => ?_)
        refine h_aload_n dX12_act_66 rfl ?_
        refine h_getR dX12_act_67 f_X12_16_10 rfl rfl ?_
        refine h_iconst dX12_act_70 ci_2 ?_
        refine h_aload_n dX12_act_71 rfl ?_
        refine h_getI dX12_act_72 f_X12_373_10 rfl (show _ = nI p from rfl) ?_
        refine h_imulN dX12_act_75 ?_
        refine h_iconst dX12_act_76 ci_1 ?_
        refine h_iaddN dX12_act_77 ?_
        refine h_ialdN (j := (2 * p) + 1) dX12_act_78 rfl rfl (by omega) rfl (hpt p (by omega)).2 ?_
        refine h_goto (tgt := 96) dX12_act_79 rfl ?_
        refine h_putI dX12_act_96 f_X12_370_10 p_X12_10_46 (fun h => by cases h) rfl ?_
        refine h_aload_n dX12_act_99 rfl ?_
        refine h_iconst dX12_act_100 ci_0 ?_
        refine h_putZ dX12_act_101 f_X12_382_10 p_X12_10_49 (fun h => by cases h) rfl (by decide) ?_
        refine h_iload_n dX12_act_104 rfl ?_
        refine h_ifne (tgt := 116) dX12_act_105 rfl (fun c => absurd (by decide) c) (fun _ => ?_)
        refine h_aload_n dX12_act_108 rfl ?_
        refine h_iload_n dX12_act_109 rfl ?_
        refine h_cV1 dX12_act_110 k7_36 oVX12_seesIt rfl rfl ?_
        refine r6_X12_seesIt (n := nI p) (a := nI (pm p)) (j := 0) rfl rfl rfl rfl (by omega) ?_
        refine h_goto (tgt := 147) dX12_act_113 rfl ?_
        refine h_istore dX12_act_147 (Nat.le_of_ble_eq_true rfl) ?_
        refine h_aload_n dX12_act_149 rfl ?_
        refine h_getZ dX12_act_150 f_X12_382_10 rfl (show _ = nI 0 from ap_n (by decide) (by decide) rfl) ?_
        refine h_ifeq (tgt := 161) dX12_act_153 rfl (fun _ => ?_) (fun c => absurd (by decide) c)
        refine h_iload dX12_act_161 rfl ?_
        refine h_ireturn dX12_act_163 rfl ?_
        exact hQ _ (AR_iff.mpr ⟨fun x h110 h82 => by simp [upI, h110, h82, ap_o h110 h82], fun j q44 q45 q46 q48 q49 => by
          have e : ∀ I0 : hI, ap I0 110 82 48 0 [70] 82 j = I0 82 j := fun I0 => ap_n (by decide) q48 rfl
          simp [upI, upd, e, q44, q45, q46, q48, q49]⟩) (ap_c0 (by decide) rfl rfl) (fun i0 hi => ap_g0 (by decide) hi)
      · exact absurd ⟨by decide, by decide⟩ b3
    · exact absurd ⟨by decide, by decide⟩ b2
  · exact absurd ⟨by rw [nI_leI (by omega) (by omega)]; omega, by rw [nI_leI (by omega) (by omega)]; omega⟩ b1
theorem r_act61 {l : Launch} {dp : Nat} {ns nl np ml nk nw : Nat} {pl fa fb sl pp pm ki fr tg wh bw : Nat → Nat} {rs sn : Nat → Int32} {fl : Nat → Bool} {qw : Nat → Nat → Nat → Nat → Bool} {I : hI} {J : hJ} {lt tx : Option Nat} {sk : Nat → Nat} {sm sz : Nat → Int32} {s : Nat} {p : Nat} {z : Int32} {Q : hQ} (hG : rG I ns nl np ml nk nw pl fa fb sl pp pm ki fr tg wh bw rs sn fl qw) (hH : rH I sk sm sz) (hs : s < 4) (hp : p < np) (e0 : sk s = 1) (e9 : sm s = nI p) (hQ : ∀ I', AR I I' → I' 82 48 = nI 2 → (∀ i, i < 2 → I' 110 i = nI (List.getD [71, 70] i 0)) → Q (some (.int (((z * (nI (pm p))) - (nI p))))) hSH I' J (hRR lt tx))  : HC l mX12_act (dp + 6) 0 0 [.ref 82, .int (nI s), .int (nI 1), .int z] hSH I J (hRR lt tx) Q := by
  refine HC.of (by decide +kernel) rfl (Nat.le_of_ble_eq_true rfl) ?_
  show HV l mX12_act (dp + 6) 0 0 0 [some (.ref 82), some (.int (nI s)), some (.int (nI 1)), some (.int z), none] [] hSH I J (hRR lt tx) Q
  obtain ⟨hN, hw, ⟨hnp, hml, hnk, hpt, hsi⟩, ⟨hn8, hm2, hn24, hpW, hsW⟩, hL⟩ := id hG
  obtain ⟨hns, hnl, hpl, hlg⟩ := id hN
  obtain ⟨hn6, hl12, hW, hp99, hr99⟩ := id hw
  obtain ⟨w1, w2, w3, w4⟩ := hH s hs
  refine h_aload_n dX12_act_0 rfl ?_
  refine h_iconst dX12_act_1 ci_0 ?_
  refine h_putI dX12_act_2 f_X12_361_10 p_X12_10_48 (fun h => by cases h) rfl ?_
  refine h_iload_n dX12_act_5 rfl ?_
  refine h_cS1 dX12_act_6 k6_233 oSX12_isShelf rfl ?_
  refine c_X12_isShelf (fun b1 => ?_) (fun b1 => ?_)
  · refine h_ifeq (tgt := 35) dX12_act_9 rfl (fun c => absurd c (by decide)) (fun _ => ?_)
    refine h_iload_n dX12_act_12 rfl ?_
    refine h_iconst dX12_act_13 ci_0 ?_
    refine h_iconst dX12_act_14 ci_3 ?_
    refine h_cS3 dX12_act_15 k5_172 oSX12_in rfl ?_
    refine c_X12_in (fun b2 => ?_) (fun b2 => ?_)
    · refine h_ifeq (tgt := 35) dX12_act_18 rfl (fun c => absurd c (by decide)) (fun _ => ?_)
      refine h_aload_n dX12_act_21 rfl ?_
      refine h_iload_n dX12_act_22 rfl ?_
      refine h_cV1 dX12_act_23 k7_25 oVX12_kindOn rfl rfl ?_
      refine r_kindA (I := (upI I 82 48 (nI 0))) (k := 6) hG hH hs (.inl ⟨rfl, p, hp, e0, e9, rfl, rfl⟩) ?_
      refine h_iconst dX12_act_26 ci_1 ?_
      refine h_bipush dX12_act_27 cb_6 ?_
      refine h_cS3 dX12_act_29 k5_172 oSX12_in rfl ?_
      refine c_X12_in (fun b3 => ?_) (fun b3 => ?_)
      · refine h_ifne (tgt := 37) dX12_act_32 rfl (fun _ => ?_) (fun c => absurd c (by decide))
        refine h_aload_n dX12_act_37 rfl ?_
        refine h_aload_n dX12_act_38 rfl ?_
        refine h_iload_n dX12_act_39 rfl ?_
        refine h_cV1 dX12_act_40 k7_25 oVX12_kindOn rfl rfl ?_
        refine r_kindA (I := (upI I 82 48 (nI 0))) (k := 6) hG hH hs (.inl ⟨rfl, p, hp, e0, e9, rfl, rfl⟩) ?_
        refine h_putI dX12_act_43 f_X12_364_10 p_X12_10_44 (fun h => by cases h) rfl ?_
        refine h_aload_n dX12_act_46 rfl ?_
        refine h_aload_n dX12_act_47 rfl ?_
        refine h_getR dX12_act_48 f_X12_87_10 rfl rfl ?_
        refine h_iload_n dX12_act_51 rfl ?_
        refine h_ialdN (j := s) dX12_act_52 rfl rfl (by omega) rfl ((w3 (by omega)).trans e9) ?_
        refine h_putI dX12_act_53 f_X12_373_10 p_X12_10_45 (fun h => by cases h) rfl ?_
        refine h_aload_n dX12_act_56 rfl ?_
        refine h_aload_n dX12_act_57 rfl ?_
        refine h_getI dX12_act_58 f_X12_364_10 rfl (show _ = nI 6 from rfl) ?_
        refine h_bipush dX12_act_61 cb_6 ?_
        refine h_icmpne (tgt := 82) dX12_act_63 rfl (fun c => absurd (by decide) c) (fun _ => ?_)
        refine h_aload_n dX12_act_66 rfl ?_
        refine h_getR dX12_act_67 f_X12_16_10 rfl rfl ?_
        refine h_iconst dX12_act_70 ci_2 ?_
        refine h_aload_n dX12_act_71 rfl ?_
        refine h_getI dX12_act_72 f_X12_373_10 rfl (show _ = nI p from rfl) ?_
        refine h_imulN dX12_act_75 ?_
        refine h_iconst dX12_act_76 ci_1 ?_
        refine h_iaddN dX12_act_77 ?_
        refine h_ialdN (j := (2 * p) + 1) dX12_act_78 rfl rfl (by omega) rfl (hpt p (by omega)).2 ?_
        refine h_goto (tgt := 96) dX12_act_79 rfl ?_
        refine h_putI dX12_act_96 f_X12_370_10 p_X12_10_46 (fun h => by cases h) rfl ?_
        refine h_aload_n dX12_act_99 rfl ?_
        refine h_iconst dX12_act_100 ci_0 ?_
        refine h_putZ dX12_act_101 f_X12_382_10 p_X12_10_49 (fun h => by cases h) rfl (by decide) ?_
        refine h_iload_n dX12_act_104 rfl ?_
        refine h_ifne (tgt := 116) dX12_act_105 rfl (fun _ => ?_) (fun c => absurd c (by decide))
        refine h_iload_n dX12_act_116 rfl ?_
        refine h_iconst dX12_act_117 ci_1 ?_
        refine h_icmpne (tgt := 129) dX12_act_118 rfl (fun c => absurd (by decide) c) (fun _ => ?_)
        refine h_aload_n dX12_act_121 rfl ?_
        refine h_iload_n dX12_act_122 rfl ?_
        refine h_cV1 dX12_act_123 k7_44 oVX12_bendsIt rfl rfl ?_
        refine r6_X12_bendsIt (n := nI p) (a := nI (pm p)) (j := 0) rfl rfl rfl rfl (by omega) ?_
        refine h_goto (tgt := 147) dX12_act_126 rfl ?_
        refine h_istore dX12_act_147 (Nat.le_of_ble_eq_true rfl) ?_
        refine h_aload_n dX12_act_149 rfl ?_
        refine h_getZ dX12_act_150 f_X12_382_10 rfl (show _ = nI 0 from ap_n (by decide) (by decide) rfl) ?_
        refine h_ifeq (tgt := 161) dX12_act_153 rfl (fun _ => ?_) (fun c => absurd (by decide) c)
        refine h_iload dX12_act_161 rfl ?_
        refine h_ireturn dX12_act_163 rfl ?_
        exact hQ _ (AR_iff.mpr ⟨fun x h110 h82 => by simp [upI, h110, h82, ap_o h110 h82], fun j q44 q45 q46 q48 q49 => by
          have e : ∀ I0 : hI, ap I0 110 82 48 0 [71, 70] 82 j = I0 82 j := fun I0 => ap_n (by decide) q48 rfl
          simp [upI, upd, e, q44, q45, q46, q48, q49]⟩) (ap_c0 (by decide) rfl rfl) (fun i0 hi => ap_g0 (by decide) hi)
      · exact absurd ⟨by decide, by decide⟩ b3
    · exact absurd ⟨by decide, by decide⟩ b2
  · exact absurd ⟨by rw [nI_leI (by omega) (by omega)]; omega, by rw [nI_leI (by omega) (by omega)]; omega⟩ b1
theorem r_act62 {l : Launch} {dp : Nat} {ns nl np ml nk nw : Nat} {pl fa fb sl pp pm ki fr tg wh bw : Nat → Nat} {rs sn : Nat → Int32} {fl : Nat → Bool} {qw : Nat → Nat → Nat → Nat → Bool} {I : hI} {J : hJ} {lt tx : Option Nat} {sk : Nat → Nat} {sm sz : Nat → Int32} {s : Nat} {p : Nat} {z : Int32} {Q : hQ} (hG : rG I ns nl np ml nk nw pl fa fb sl pp pm ki fr tg wh bw rs sn fl qw) (hH : rH I sk sm sz) (hs : s < 4) (hp : p < np) (e0 : sk s = 1) (e9 : sm s = nI p) (hQ : ∀ I', AR I I' → I' 82 48 = nI 1 → (∀ i, i < 1 → I' 110 i = nI (List.getD [72] i 0)) → Q (some (.int ((z ||| (nI (pm p)))))) hSH I' J (hRR lt tx))  : HC l mX12_act (dp + 6) 0 0 [.ref 82, .int (nI s), .int (nI 2), .int z] hSH I J (hRR lt tx) Q := by
  refine HC.of (by decide +kernel) rfl (Nat.le_of_ble_eq_true rfl) ?_
  show HV l mX12_act (dp + 6) 0 0 0 [some (.ref 82), some (.int (nI s)), some (.int (nI 2)), some (.int z), none] [] hSH I J (hRR lt tx) Q
  obtain ⟨hN, hw, ⟨hnp, hml, hnk, hpt, hsi⟩, ⟨hn8, hm2, hn24, hpW, hsW⟩, hL⟩ := id hG
  obtain ⟨hns, hnl, hpl, hlg⟩ := id hN
  obtain ⟨hn6, hl12, hW, hp99, hr99⟩ := id hw
  obtain ⟨w1, w2, w3, w4⟩ := hH s hs
  refine h_aload_n dX12_act_0 rfl ?_
  refine h_iconst dX12_act_1 ci_0 ?_
  refine h_putI dX12_act_2 f_X12_361_10 p_X12_10_48 (fun h => by cases h) rfl ?_
  refine h_iload_n dX12_act_5 rfl ?_
  refine h_cS1 dX12_act_6 k6_233 oSX12_isShelf rfl ?_
  refine c_X12_isShelf (fun b1 => ?_) (fun b1 => ?_)
  · refine h_ifeq (tgt := 35) dX12_act_9 rfl (fun c => absurd c (by decide)) (fun _ => ?_)
    refine h_iload_n dX12_act_12 rfl ?_
    refine h_iconst dX12_act_13 ci_0 ?_
    refine h_iconst dX12_act_14 ci_3 ?_
    refine h_cS3 dX12_act_15 k5_172 oSX12_in rfl ?_
    refine c_X12_in (fun b2 => ?_) (fun b2 => ?_)
    · refine h_ifeq (tgt := 35) dX12_act_18 rfl (fun c => absurd c (by decide)) (fun _ => ?_)
      refine h_aload_n dX12_act_21 rfl ?_
      refine h_iload_n dX12_act_22 rfl ?_
      refine h_cV1 dX12_act_23 k7_25 oVX12_kindOn rfl rfl ?_
      refine r_kindA (I := (upI I 82 48 (nI 0))) (k := 6) hG hH hs (.inl ⟨rfl, p, hp, e0, e9, rfl, rfl⟩) ?_
      refine h_iconst dX12_act_26 ci_1 ?_
      refine h_bipush dX12_act_27 cb_6 ?_
      refine h_cS3 dX12_act_29 k5_172 oSX12_in rfl ?_
      refine c_X12_in (fun b3 => ?_) (fun b3 => ?_)
      · refine h_ifne (tgt := 37) dX12_act_32 rfl (fun _ => ?_) (fun c => absurd c (by decide))
        refine h_aload_n dX12_act_37 rfl ?_
        refine h_aload_n dX12_act_38 rfl ?_
        refine h_iload_n dX12_act_39 rfl ?_
        refine h_cV1 dX12_act_40 k7_25 oVX12_kindOn rfl rfl ?_
        refine r_kindA (I := (upI I 82 48 (nI 0))) (k := 6) hG hH hs (.inl ⟨rfl, p, hp, e0, e9, rfl, rfl⟩) ?_
        refine h_putI dX12_act_43 f_X12_364_10 p_X12_10_44 (fun h => by cases h) rfl ?_
        refine h_aload_n dX12_act_46 rfl ?_
        refine h_aload_n dX12_act_47 rfl ?_
        refine h_getR dX12_act_48 f_X12_87_10 rfl rfl ?_
        refine h_iload_n dX12_act_51 rfl ?_
        refine h_ialdN (j := s) dX12_act_52 rfl rfl (by omega) rfl ((w3 (by omega)).trans e9) ?_
        refine h_putI dX12_act_53 f_X12_373_10 p_X12_10_45 (fun h => by cases h) rfl ?_
        refine h_aload_n dX12_act_56 rfl ?_
        refine h_aload_n dX12_act_57 rfl ?_
        refine h_getI dX12_act_58 f_X12_364_10 rfl (show _ = nI 6 from rfl) ?_
        refine h_bipush dX12_act_61 cb_6 ?_
        refine h_icmpne (tgt := 82) dX12_act_63 rfl (fun c => absurd (by decide) c) (fun _ => ?_)
        refine h_aload_n dX12_act_66 rfl ?_
        refine h_getR dX12_act_67 f_X12_16_10 rfl rfl ?_
        refine h_iconst dX12_act_70 ci_2 ?_
        refine h_aload_n dX12_act_71 rfl ?_
        refine h_getI dX12_act_72 f_X12_373_10 rfl (show _ = nI p from rfl) ?_
        refine h_imulN dX12_act_75 ?_
        refine h_iconst dX12_act_76 ci_1 ?_
        refine h_iaddN dX12_act_77 ?_
        refine h_ialdN (j := (2 * p) + 1) dX12_act_78 rfl rfl (by omega) rfl (hpt p (by omega)).2 ?_
        refine h_goto (tgt := 96) dX12_act_79 rfl ?_
        refine h_putI dX12_act_96 f_X12_370_10 p_X12_10_46 (fun h => by cases h) rfl ?_
        refine h_aload_n dX12_act_99 rfl ?_
        refine h_iconst dX12_act_100 ci_0 ?_
        refine h_putZ dX12_act_101 f_X12_382_10 p_X12_10_49 (fun h => by cases h) rfl (by decide) ?_
        refine h_iload_n dX12_act_104 rfl ?_
        refine h_ifne (tgt := 116) dX12_act_105 rfl (fun _ => ?_) (fun c => absurd c (by decide))
        refine h_iload_n dX12_act_116 rfl ?_
        refine h_iconst dX12_act_117 ci_1 ?_
        refine h_icmpne (tgt := 129) dX12_act_118 rfl (fun _ => ?_) (fun c => absurd c (by decide))
        refine h_iload_n dX12_act_129 rfl ?_
        refine h_iconst dX12_act_130 ci_2 ?_
        refine h_icmpne (tgt := 142) dX12_act_131 rfl (fun c => absurd (by decide) c) (fun _ => ?_)
        refine h_aload_n dX12_act_134 rfl ?_
        refine h_iload_n dX12_act_135 rfl ?_
        refine h_cV1 dX12_act_136 k7_52 oVX12_leansIt rfl rfl ?_
        refine r6_X12_leansIt (n := nI p) (a := nI (pm p)) (j := 0) rfl rfl rfl rfl (by omega) ?_
        refine h_goto (tgt := 147) dX12_act_139 rfl ?_
        refine h_istore dX12_act_147 (Nat.le_of_ble_eq_true rfl) ?_
        refine h_aload_n dX12_act_149 rfl ?_
        refine h_getZ dX12_act_150 f_X12_382_10 rfl (show _ = nI 0 from ap_n (by decide) (by decide) rfl) ?_
        refine h_ifeq (tgt := 161) dX12_act_153 rfl (fun _ => ?_) (fun c => absurd (by decide) c)
        refine h_iload dX12_act_161 rfl ?_
        refine h_ireturn dX12_act_163 rfl ?_
        exact hQ _ (AR_iff.mpr ⟨fun x h110 h82 => by simp [upI, h110, h82, ap_o h110 h82], fun j q44 q45 q46 q48 q49 => by
          have e : ∀ I0 : hI, ap I0 110 82 48 0 [72] 82 j = I0 82 j := fun I0 => ap_n (by decide) q48 rfl
          simp [upI, upd, e, q44, q45, q46, q48, q49]⟩) (ap_c0 (by decide) rfl rfl) (fun i0 hi => ap_g0 (by decide) hi)
      · exact absurd ⟨by decide, by decide⟩ b3
    · exact absurd ⟨by decide, by decide⟩ b2
  · exact absurd ⟨by rw [nI_leI (by omega) (by omega)]; omega, by rw [nI_leI (by omega) (by omega)]; omega⟩ b1
theorem r_act63 {l : Launch} {dp : Nat} {ns nl np ml nk nw : Nat} {pl fa fb sl pp pm ki fr tg wh bw : Nat → Nat} {rs sn : Nat → Int32} {fl : Nat → Bool} {qw : Nat → Nat → Nat → Nat → Bool} {I : hI} {J : hJ} {lt tx : Option Nat} {sk : Nat → Nat} {sm sz : Nat → Int32} {s : Nat} {p : Nat} {z : Int32} {Q : hQ} (hG : rG I ns nl np ml nk nw pl fa fb sl pp pm ki fr tg wh bw rs sn fl qw) (hH : rH I sk sm sz) (hs : s < 4) (hp : p < np) (e0 : sk s = 1) (e9 : sm s = nI p) (hQ : ∀ I', AR I I' → I' 82 48 = nI 4 → (∀ i, i < 4 → I' 110 i = nI (List.getD [73, 71, 70, 72] i 0)) → Q (some (.int ((((z * (nI (pm p))) - (nI p)) + ((nI p) ||| (nI (pm p))))))) hSH I' J (hRR lt tx))  : HC l mX12_act (dp + 6) 0 0 [.ref 82, .int (nI s), .int (nI 3), .int z] hSH I J (hRR lt tx) Q := by
  refine HC.of (by decide +kernel) rfl (Nat.le_of_ble_eq_true rfl) ?_
  show HV l mX12_act (dp + 6) 0 0 0 [some (.ref 82), some (.int (nI s)), some (.int (nI 3)), some (.int z), none] [] hSH I J (hRR lt tx) Q
  obtain ⟨hN, hw, ⟨hnp, hml, hnk, hpt, hsi⟩, ⟨hn8, hm2, hn24, hpW, hsW⟩, hL⟩ := id hG
  obtain ⟨hns, hnl, hpl, hlg⟩ := id hN
  obtain ⟨hn6, hl12, hW, hp99, hr99⟩ := id hw
  obtain ⟨w1, w2, w3, w4⟩ := hH s hs
  refine h_aload_n dX12_act_0 rfl ?_
  refine h_iconst dX12_act_1 ci_0 ?_
  refine h_putI dX12_act_2 f_X12_361_10 p_X12_10_48 (fun h => by cases h) rfl ?_
  refine h_iload_n dX12_act_5 rfl ?_
  refine h_cS1 dX12_act_6 k6_233 oSX12_isShelf rfl ?_
  refine c_X12_isShelf (fun b1 => ?_) (fun b1 => ?_)
  · refine h_ifeq (tgt := 35) dX12_act_9 rfl (fun c => absurd c (by decide)) (fun _ => ?_)
    refine h_iload_n dX12_act_12 rfl ?_
    refine h_iconst dX12_act_13 ci_0 ?_
    refine h_iconst dX12_act_14 ci_3 ?_
    refine h_cS3 dX12_act_15 k5_172 oSX12_in rfl ?_
    refine c_X12_in (fun b2 => ?_) (fun b2 => ?_)
    · refine h_ifeq (tgt := 35) dX12_act_18 rfl (fun c => absurd c (by decide)) (fun _ => ?_)
      refine h_aload_n dX12_act_21 rfl ?_
      refine h_iload_n dX12_act_22 rfl ?_
      refine h_cV1 dX12_act_23 k7_25 oVX12_kindOn rfl rfl ?_
      refine r_kindA (I := (upI I 82 48 (nI 0))) (k := 6) hG hH hs (.inl ⟨rfl, p, hp, e0, e9, rfl, rfl⟩) ?_
      refine h_iconst dX12_act_26 ci_1 ?_
      refine h_bipush dX12_act_27 cb_6 ?_
      refine h_cS3 dX12_act_29 k5_172 oSX12_in rfl ?_
      refine c_X12_in (fun b3 => ?_) (fun b3 => ?_)
      · refine h_ifne (tgt := 37) dX12_act_32 rfl (fun _ => ?_) (fun c => absurd c (by decide))
        refine h_aload_n dX12_act_37 rfl ?_
        refine h_aload_n dX12_act_38 rfl ?_
        refine h_iload_n dX12_act_39 rfl ?_
        refine h_cV1 dX12_act_40 k7_25 oVX12_kindOn rfl rfl ?_
        refine r_kindA (I := (upI I 82 48 (nI 0))) (k := 6) hG hH hs (.inl ⟨rfl, p, hp, e0, e9, rfl, rfl⟩) ?_
        refine h_putI dX12_act_43 f_X12_364_10 p_X12_10_44 (fun h => by cases h) rfl ?_
        refine h_aload_n dX12_act_46 rfl ?_
        refine h_aload_n dX12_act_47 rfl ?_
        refine h_getR dX12_act_48 f_X12_87_10 rfl rfl ?_
        refine h_iload_n dX12_act_51 rfl ?_
        refine h_ialdN (j := s) dX12_act_52 rfl rfl (by omega) rfl ((w3 (by omega)).trans e9) ?_
        refine h_putI dX12_act_53 f_X12_373_10 p_X12_10_45 (fun h => by cases h) rfl ?_
        refine h_aload_n dX12_act_56 rfl ?_
        refine h_aload_n dX12_act_57 rfl ?_
        refine h_getI dX12_act_58 f_X12_364_10 rfl (show _ = nI 6 from rfl) ?_
        refine h_bipush dX12_act_61 cb_6 ?_
        refine h_icmpne (tgt := 82) dX12_act_63 rfl (fun c => absurd (by decide) c) (fun _ => ?_)
        refine h_aload_n dX12_act_66 rfl ?_
        refine h_getR dX12_act_67 f_X12_16_10 rfl rfl ?_
        refine h_iconst dX12_act_70 ci_2 ?_
        refine h_aload_n dX12_act_71 rfl ?_
        refine h_getI dX12_act_72 f_X12_373_10 rfl (show _ = nI p from rfl) ?_
        refine h_imulN dX12_act_75 ?_
        refine h_iconst dX12_act_76 ci_1 ?_
        refine h_iaddN dX12_act_77 ?_
        refine h_ialdN (j := (2 * p) + 1) dX12_act_78 rfl rfl (by omega) rfl (hpt p (by omega)).2 ?_
        refine h_goto (tgt := 96) dX12_act_79 rfl ?_
        refine h_putI dX12_act_96 f_X12_370_10 p_X12_10_46 (fun h => by cases h) rfl ?_
        refine h_aload_n dX12_act_99 rfl ?_
        refine h_iconst dX12_act_100 ci_0 ?_
        refine h_putZ dX12_act_101 f_X12_382_10 p_X12_10_49 (fun h => by cases h) rfl (by decide) ?_
        refine h_iload_n dX12_act_104 rfl ?_
        refine h_ifne (tgt := 116) dX12_act_105 rfl (fun _ => ?_) (fun c => absurd c (by decide))
        refine h_iload_n dX12_act_116 rfl ?_
        refine h_iconst dX12_act_117 ci_1 ?_
        refine h_icmpne (tgt := 129) dX12_act_118 rfl (fun _ => ?_) (fun c => absurd c (by decide))
        refine h_iload_n dX12_act_129 rfl ?_
        refine h_iconst dX12_act_130 ci_2 ?_
        refine h_icmpne (tgt := 142) dX12_act_131 rfl (fun _ => ?_) (fun c => absurd c (by decide))
        refine h_aload_n dX12_act_142 rfl ?_
        refine h_iload_n dX12_act_143 rfl ?_
        refine h_cV1 dX12_act_144 k7_60 oVX12_tellsIt rfl rfl ?_
        refine r6_X12_tellsIt (n := nI p) (a := nI (pm p)) (j := 0) rfl rfl rfl rfl (by omega) ?_
        refine h_istore dX12_act_147 (Nat.le_of_ble_eq_true rfl) ?_
        refine h_aload_n dX12_act_149 rfl ?_
        refine h_getZ dX12_act_150 f_X12_382_10 rfl (show _ = nI 0 from ap_n (by decide) (by decide) rfl) ?_
        refine h_ifeq (tgt := 161) dX12_act_153 rfl (fun _ => ?_) (fun c => absurd (by decide) c)
        refine h_iload dX12_act_161 rfl ?_
        refine h_ireturn dX12_act_163 rfl ?_
        exact hQ _ (AR_iff.mpr ⟨fun x h110 h82 => by simp [upI, h110, h82, ap_o h110 h82], fun j q44 q45 q46 q48 q49 => by
          have e : ∀ I0 : hI, ap I0 110 82 48 0 [73, 71, 70, 72] 82 j = I0 82 j := fun I0 => ap_n (by decide) q48 rfl
          simp [upI, upd, e, q44, q45, q46, q48, q49]⟩) (ap_c0 (by decide) rfl rfl) (fun i0 hi => ap_g0 (by decide) hi)
      · exact absurd ⟨by decide, by decide⟩ b3
    · exact absurd ⟨by decide, by decide⟩ b2
  · exact absurd ⟨by rw [nI_leI (by omega) (by omega)]; omega, by rw [nI_leI (by omega) (by omega)]; omega⟩ b1
theorem c_actB {l : Launch} {dp : Nat} {ns nl np ml nk nw : Nat} {pl fa fb sl pp pm ki fr tg wh bw : Nat → Nat} {rs sn : Nat → Int32} {fl : Nat → Bool} {qw : Nat → Nat → Nat → Nat → Bool} {I : hI} {J : hJ} {lt tx : Option Nat} {x w z : Int32} {Q : hQ} (hG : cG I ns nl np ml nk nw pl fa fb sl pp pm ki fr tg wh bw rs sn fl qw) (hv : ¬ (sh4 x ∧ nI 0 ≤ w ∧ w ≤ nI 3)) (hQ : Q (some (.int (nI 0))) hSH I J (hRR none tx))  : HC l mX11_act (dp + 7) 0 0 [.ref 0, .int x, .int w, .int z] hSH I J (hRR lt tx) Q := by
  refine HC.of (by decide +kernel) rfl (Nat.le_of_ble_eq_true rfl) ?_
  show HV l mX11_act (dp + 7) 0 0 0 [some (.ref 0), some (.int x), some (.int w), some (.int z), none, none] [] hSH I J (hRR lt tx) Q
  obtain ⟨⟨hN, hdo, hla, hlv⟩, hw, ⟨hnp, hml, hnk, hpt, hsi, hbt⟩, ⟨hn8, hm2, hn24, hpW, hsW⟩, hL⟩ := id hG
  obtain ⟨hns, hnl, hpl, hlg⟩ := id hN
  obtain ⟨hn6, hl12, hW, hp99, hr99⟩ := id hw
  refine h_aload_n dX11_act_0 rfl ?_
  refine h_null dX11_act_1 ?_
  refine h_putN dX11_act_2 f_X11_79_9 p_X11_9_17 (fun h => by cases h) rfl ?_
  rw [hRR_lt]
  refine h_iload_n dX11_act_5 rfl ?_
  refine h_cS1 dX11_act_6 k4_72 oSX11_isShelf rfl ?_
  refine c_X11_isShelf (fun b1 => ?_) (fun b1 => ?_)
  · refine h_ifeq (tgt := 21) dX11_act_9 rfl (fun c => absurd c (by decide)) (fun _ => ?_)
    refine h_iload_n dX11_act_12 rfl ?_
    refine h_iconst dX11_act_13 ci_0 ?_
    refine h_iconst dX11_act_14 ci_3 ?_
    refine h_cS3 dX11_act_15 k2_154 oSX11_within rfl ?_
    refine c_X11_within (fun b2 => ?_) (fun b2 => ?_)
    · exact absurd ⟨b1, b2⟩ hv
    · refine h_ifne (tgt := 23) dX11_act_18 rfl (fun c => absurd (by decide) c) (fun _ => ?_)
      refine h_iconst dX11_act_21 ci_0 ?_
      refine h_ireturn dX11_act_22 rfl ?_
      exact hQ
  · refine h_ifeq (tgt := 21) dX11_act_9 rfl (fun _ => ?_) (fun c => absurd (by decide) c)
    refine h_iconst dX11_act_21 ci_0 ?_
    refine h_ireturn dX11_act_22 rfl ?_
    exact hQ
theorem c_actN {l : Launch} {dp : Nat} {ns nl np ml nk nw : Nat} {pl fa fb sl pp pm ki fr tg wh bw : Nat → Nat} {rs sn : Nat → Int32} {fl : Nat → Bool} {qw : Nat → Nat → Nat → Nat → Bool} {I : hI} {J : hJ} {lt tx : Option Nat} {sk : Nat → Nat} {sm sz : Nat → Int32} {s : Nat} {w z : Int32} {Q : hQ} (hG : cG I ns nl np ml nk nw pl fa fb sl pp pm ki fr tg wh bw rs sn fl qw) (hH : cH I sk sm sz) (hs : s < 4) (hw9 : nI 0 ≤ w ∧ w ≤ nI 3) (hv : noA nk np sk sm s) (hQ : Q (some (.int (nI 0))) hSH I J (hRR none tx))  : HC l mX11_act (dp + 7) 0 0 [.ref 0, .int (nI s), .int w, .int z] hSH I J (hRR lt tx) Q := by
  refine HC.of (by decide +kernel) rfl (Nat.le_of_ble_eq_true rfl) ?_
  show HV l mX11_act (dp + 7) 0 0 0 [some (.ref 0), some (.int (nI s)), some (.int w), some (.int z), none, none] [] hSH I J (hRR lt tx) Q
  obtain ⟨⟨hN, hdo, hla, hlv⟩, hw, ⟨hnp, hml, hnk, hpt, hsi, hbt⟩, ⟨hn8, hm2, hn24, hpW, hsW⟩, hL⟩ := id hG
  obtain ⟨hns, hnl, hpl, hlg⟩ := id hN
  obtain ⟨hn6, hl12, hW, hp99, hr99⟩ := id hw
  refine h_aload_n dX11_act_0 rfl ?_
  refine h_null dX11_act_1 ?_
  refine h_putN dX11_act_2 f_X11_79_9 p_X11_9_17 (fun h => by cases h) rfl ?_
  rw [hRR_lt]
  refine h_iload_n dX11_act_5 rfl ?_
  refine h_cS1 dX11_act_6 k4_72 oSX11_isShelf rfl ?_
  refine c_X11_isShelf (fun b1 => ?_) (fun b1 => ?_)
  · refine h_ifeq (tgt := 21) dX11_act_9 rfl (fun c => absurd c (by decide)) (fun _ => ?_)
    refine h_iload_n dX11_act_12 rfl ?_
    refine h_iconst dX11_act_13 ci_0 ?_
    refine h_iconst dX11_act_14 ci_3 ?_
    refine h_cS3 dX11_act_15 k2_154 oSX11_within rfl ?_
    refine c_X11_within (fun b2 => ?_) (fun b2 => ?_)
    · refine h_ifne (tgt := 23) dX11_act_18 rfl (fun _ => ?_) (fun c => absurd c (by decide))
      refine h_aload_n dX11_act_23 rfl ?_
      refine h_iload_n dX11_act_24 rfl ?_
      refine h_cV1 dX11_act_25 k4_94 oVX11_thingOn rfl rfl ?_
      refine c_thingN (I := I) hG hH hs hv ?_
      refine h_astoreN dX11_act_28 (Nat.le_of_ble_eq_true rfl) ?_
      refine h_aloadN dX11_act_30 rfl ?_
      refine h_ifnonnullN dX11_act_32 ?_
      refine h_iconst dX11_act_35 ci_0 ?_
      refine h_ireturn dX11_act_36 rfl ?_
      exact hQ
    · exact absurd hw9 b2
  · exact absurd ⟨by rw [nI_leI (by omega) (by omega)]; omega, by rw [nI_leI (by omega) (by omega)]; omega⟩ b1
theorem r_actB {l : Launch} {dp : Nat} {ns nl np ml nk nw : Nat} {pl fa fb sl pp pm ki fr tg wh bw : Nat → Nat} {rs sn : Nat → Int32} {fl : Nat → Bool} {qw : Nat → Nat → Nat → Nat → Bool} {I : hI} {J : hJ} {lt tx : Option Nat} {x w z : Int32} {Q : hQ} (hG : rG I ns nl np ml nk nw pl fa fb sl pp pm ki fr tg wh bw rs sn fl qw) (hv : ¬ (sh4 x ∧ nI 0 ≤ w ∧ w ≤ nI 3)) (hQ : ∀ I', AR I I' → I' 82 48 = nI 0 → Q (some (.int (nI 0))) hSH I' J (hRR lt tx))  : HC l mX12_act (dp + 6) 0 0 [.ref 82, .int x, .int w, .int z] hSH I J (hRR lt tx) Q := by
  refine HC.of (by decide +kernel) rfl (Nat.le_of_ble_eq_true rfl) ?_
  show HV l mX12_act (dp + 6) 0 0 0 [some (.ref 82), some (.int x), some (.int w), some (.int z), none] [] hSH I J (hRR lt tx) Q
  obtain ⟨hN, hw, ⟨hnp, hml, hnk, hpt, hsi⟩, ⟨hn8, hm2, hn24, hpW, hsW⟩, hL⟩ := id hG
  obtain ⟨hns, hnl, hpl, hlg⟩ := id hN
  obtain ⟨hn6, hl12, hW, hp99, hr99⟩ := id hw
  refine h_aload_n dX12_act_0 rfl ?_
  refine h_iconst dX12_act_1 ci_0 ?_
  refine h_putI dX12_act_2 f_X12_361_10 p_X12_10_48 (fun h => by cases h) rfl ?_
  refine h_iload_n dX12_act_5 rfl ?_
  refine h_cS1 dX12_act_6 k6_233 oSX12_isShelf rfl ?_
  refine c_X12_isShelf (fun b1 => ?_) (fun b1 => ?_)
  · refine h_ifeq (tgt := 35) dX12_act_9 rfl (fun c => absurd c (by decide)) (fun _ => ?_)
    refine h_iload_n dX12_act_12 rfl ?_
    refine h_iconst dX12_act_13 ci_0 ?_
    refine h_iconst dX12_act_14 ci_3 ?_
    refine h_cS3 dX12_act_15 k5_172 oSX12_in rfl ?_
    refine c_X12_in (fun b2 => ?_) (fun b2 => ?_)
    · exact absurd ⟨b1, b2⟩ hv
    · refine h_ifeq (tgt := 35) dX12_act_18 rfl (fun _ => ?_) (fun c => absurd (by decide) c)
      refine h_iconst dX12_act_35 ci_0 ?_
      refine h_ireturn dX12_act_36 rfl ?_
      exact hQ _ (AR_iff.mpr ⟨fun x h110 h82 => by simp [upI, h82], fun j q44 q45 q46 q48 q49 => by simp [upI, upd, q48]⟩) rfl
  · refine h_ifeq (tgt := 35) dX12_act_9 rfl (fun _ => ?_) (fun c => absurd (by decide) c)
    refine h_iconst dX12_act_35 ci_0 ?_
    refine h_ireturn dX12_act_36 rfl ?_
    exact hQ _ (AR_iff.mpr ⟨fun x h110 h82 => by simp [upI, h82], fun j q44 q45 q46 q48 q49 => by simp [upI, upd, q48]⟩) rfl
theorem r_actN {l : Launch} {dp : Nat} {ns nl np ml nk nw : Nat} {pl fa fb sl pp pm ki fr tg wh bw : Nat → Nat} {rs sn : Nat → Int32} {fl : Nat → Bool} {qw : Nat → Nat → Nat → Nat → Bool} {I : hI} {J : hJ} {lt tx : Option Nat} {sk : Nat → Nat} {sm sz : Nat → Int32} {s : Nat} {w z : Int32} {Q : hQ} (hG : rG I ns nl np ml nk nw pl fa fb sl pp pm ki fr tg wh bw rs sn fl qw) (hH : rH I sk sm sz) (hs : s < 4) (hw9 : nI 0 ≤ w ∧ w ≤ nI 3) (hv : noA nk np sk sm s) (hQ : ∀ I', AR I I' → I' 82 48 = nI 0 → Q (some (.int (nI 0))) hSH I' J (hRR lt tx))  : HC l mX12_act (dp + 6) 0 0 [.ref 82, .int (nI s), .int w, .int z] hSH I J (hRR lt tx) Q := by
  refine HC.of (by decide +kernel) rfl (Nat.le_of_ble_eq_true rfl) ?_
  show HV l mX12_act (dp + 6) 0 0 0 [some (.ref 82), some (.int (nI s)), some (.int w), some (.int z), none] [] hSH I J (hRR lt tx) Q
  obtain ⟨hN, hw, ⟨hnp, hml, hnk, hpt, hsi⟩, ⟨hn8, hm2, hn24, hpW, hsW⟩, hL⟩ := id hG
  obtain ⟨hns, hnl, hpl, hlg⟩ := id hN
  obtain ⟨hn6, hl12, hW, hp99, hr99⟩ := id hw
  refine h_aload_n dX12_act_0 rfl ?_
  refine h_iconst dX12_act_1 ci_0 ?_
  refine h_putI dX12_act_2 f_X12_361_10 p_X12_10_48 (fun h => by cases h) rfl ?_
  refine h_iload_n dX12_act_5 rfl ?_
  refine h_cS1 dX12_act_6 k6_233 oSX12_isShelf rfl ?_
  refine c_X12_isShelf (fun b1 => ?_) (fun b1 => ?_)
  · refine h_ifeq (tgt := 35) dX12_act_9 rfl (fun c => absurd c (by decide)) (fun _ => ?_)
    refine h_iload_n dX12_act_12 rfl ?_
    refine h_iconst dX12_act_13 ci_0 ?_
    refine h_iconst dX12_act_14 ci_3 ?_
    refine h_cS3 dX12_act_15 k5_172 oSX12_in rfl ?_
    refine c_X12_in (fun b2 => ?_) (fun b2 => ?_)
    · refine h_ifeq (tgt := 35) dX12_act_18 rfl (fun c => absurd c (by decide)) (fun _ => ?_)
      refine h_aload_n dX12_act_21 rfl ?_
      refine h_iload_n dX12_act_22 rfl ?_
      refine h_cV1 dX12_act_23 k7_25 oVX12_kindOn rfl rfl ?_
      refine r_kindN (I := (upI I 82 48 (nI 0))) hG hH hs hv (fun v hv2 => ?_)
      refine h_iconst dX12_act_26 ci_1 ?_
      refine h_bipush dX12_act_27 cb_6 ?_
      refine h_cS3 dX12_act_29 k5_172 oSX12_in rfl ?_
      refine c_X12_in (fun b3 => ?_) (fun b3 => ?_)
      · exact absurd b3 hv2
      · refine h_ifne (tgt := 37) dX12_act_32 rfl (fun c => absurd (by decide) c) (fun _ => ?_)
        refine h_iconst dX12_act_35 ci_0 ?_
        refine h_ireturn dX12_act_36 rfl ?_
        exact hQ _ (AR_iff.mpr ⟨fun x h110 h82 => by simp [upI, h82], fun j q44 q45 q46 q48 q49 => by simp [upI, upd, q48]⟩) rfl
    · exact absurd hw9 b2
  · exact absurd ⟨by rw [nI_leI (by omega) (by omega)]; omega, by rw [nI_leI (by omega) (by omega)]; omega⟩ b1
theorem ix_of {x : Int32} {n : Nat} (hn : n < 2147483648) (h1 : ¬ x < 0) (h2 : ¬ nI n ≤ x) : isIx x n := by
  obtain ⟨k, hk, rfl⟩ := nI_of h1
  rw [nI_leI (by omega) (by omega)] at h2
  exact ⟨k, by omega, rfl⟩
theorem ix_no {x : Int32} {n : Nat} (hn : n < 2147483648) (h : isIx x n) : ¬ x < 0 ∧ ¬ nI n ≤ x := by
  obtain ⟨k, hk, rfl⟩ := h
  refine ⟨fun z => ?_, fun z => ?_⟩
  · rw [show (0 : Int32) = nI 0 from rfl, nI_ltI (by omega) (by omega)] at z; omega
  · rw [nI_leI (by omega) (by omega)] at z; omega
/-- the trace of both: na bodies, tr -/
def rTr (I : hI) (na : Nat) (tr : Nat → Nat) : Prop := I 82 48 = nI na ∧ na ≤ 30 ∧ ∀ j, j < na → I 110 j = nI (tr j)
def qTr (I : hI) (q na : Nat) (tr : Nat → Nat) : Prop := I q 2 = nI na ∧ na ≤ 30 ∧ ∀ j, j < na → I (q + 1) j = nI (tr j)
def cTr (I : hI) (lt : Option Nat) (na : Nat) (tr : Nat → Nat) : Prop := (lt = none ∧ na = 0) ∨ (lt = some 70 ∧ qTr I 70 na tr) ∨ (lt = some 72 ∧ qTr I 72 na tr) ∨ (lt = some 74 ∧ qTr I 74 na tr) ∨ (lt = some 76 ∧ qTr I 76 na tr) ∨ (lt = some 78 ∧ qTr I 78 na tr) ∨ (lt = some 80 ∧ qTr I 80 na tr)
theorem c_body1 {l : Launch} {dp : Nat} {na : Nat} {tr : Nat → Nat} {x : Int32} {I : hI} {J : hJ} {lt tx : Option Nat} {Q : hQ} (hT : qTr I 70 na tr) (hB : ¬ isIx x na → Q (some (.int (-3))) hSH I J (hRR lt tx)) (hO : ∀ i, i < na → x = nI i → Q (some (.int (nI (tr i)))) hSH I J (hRR lt tx))  : HC l mX9_body dp 0 0 [.ref 70, .int x] hSH I J (hRR lt tx) Q := by
  refine HC.of (by decide +kernel) rfl (Nat.le_of_ble_eq_true rfl) ?_
  show HV l mX9_body dp 0 0 0 [some (.ref 70), some (.int x)] [] hSH I J (hRR lt tx) Q
  obtain ⟨h2, h30, hb⟩ := hT
  refine h_iload_n dX9_body_0 rfl ?_
  refine h_iflt (tgt := 21) dX9_body_1 rfl (fun c_1 => ?_) (fun c_1 => ?_)
  · refine h_bipush dX9_body_21 cb_m3 ?_
    refine h_ireturn dX9_body_23 rfl ?_
    exact hB (fun z => (ix_no (by omega) z).1 c_1)
  · refine h_iload_n dX9_body_4 rfl ?_
    refine h_aload_n dX9_body_5 rfl ?_
    refine h_getI dX9_body_6 f_X9_18_4 rfl h2 ?_
    refine h_icmpge (tgt := 21) dX9_body_9 rfl (fun c_9 => ?_) (fun c_9 => ?_)
    · refine h_bipush dX9_body_21 cb_m3 ?_
      refine h_ireturn dX9_body_23 rfl ?_
      exact hB (fun z => (ix_no (by omega) z).2 c_9)
    · obtain ⟨i, hi, rfl⟩ := ix_of (by omega) c_1 c_9
      refine h_aload_n dX9_body_12 rfl ?_
      refine h_getR dX9_body_13 f_X9_25_4 rfl rfl ?_
      refine h_iload_n dX9_body_16 rfl ?_
      refine h_ialdN (j := i) dX9_body_17 rfl rfl (by omega) rfl (hb _ (by omega)) ?_
      refine h_goto (tgt := 23) dX9_body_18 rfl ?_
      refine h_ireturn dX9_body_23 rfl ?_
      exact hO i hi rfl
theorem oU_X9_body_X4 : hOkU mX9_body 1 4 ⟨"FarHeights$Thing", "body", "(I)I"⟩ "FarHeights$Thing" := ⟨oX9_body, k4_202, ⟨by decide +kernel, by decide +kernel, by decide +kernel⟩, k4_203, Or.inr ⟨_, _, _, k4_202, k4_210⟩, _, _, _, rfl, k4_207⟩
theorem c_trace1 {l : Launch} {dp : Nat} {na : Nat} {tr : Nat → Nat} {x : Int32} {I : hI} {J : hJ} {tx : Option Nat} {Q : hQ} (hT : qTr I 70 na tr) (hB : ¬ isIx x na → Q (some (.int (-3))) hSH I J (hRR (some 70) tx)) (hO : ∀ i, i < na → x = nI i → Q (some (.int (nI (tr i)))) hSH I J (hRR (some 70) tx))  : HC l mX11_trace (dp + 1) 0 0 [.ref 0, .int x] hSH I J (hRR (some 70) tx) Q := by
  refine HC.of (by decide +kernel) rfl (Nat.le_of_ble_eq_true rfl) ?_
  show HV l mX11_trace (dp + 1) 0 0 0 [some (.ref 0), some (.int x)] [] hSH I J (hRR (some 70) tx) Q
  refine h_aload_n dX11_trace_0 rfl ?_
  refine h_getR dX11_trace_1 f_X11_79_9 rfl rfl ?_
  refine h_ifnonnull (tgt := 12) dX11_trace_4 rfl ?_
  refine h_aload_n dX11_trace_12 rfl ?_
  refine h_getR dX11_trace_13 f_X11_79_9 rfl rfl ?_
  refine h_iload_n dX11_trace_16 rfl ?_
  refine h_cU1 dX11_trace_17 k4_201 oU_X9_body_X4 rfl rfl ?_
  refine c_body1 hT (fun e => ?_) (fun i hi e => ?_)
  · refine h_ireturn dX11_trace_20 rfl ?_
    exact hB e
  · refine h_ireturn dX11_trace_20 rfl ?_
    exact hO i hi e
theorem c_body2 {l : Launch} {dp : Nat} {na : Nat} {tr : Nat → Nat} {x : Int32} {I : hI} {J : hJ} {lt tx : Option Nat} {Q : hQ} (hT : qTr I 72 na tr) (hB : ¬ isIx x na → Q (some (.int (-3))) hSH I J (hRR lt tx)) (hO : ∀ i, i < na → x = nI i → Q (some (.int (nI (tr i)))) hSH I J (hRR lt tx))  : HC l mX9_body dp 0 0 [.ref 72, .int x] hSH I J (hRR lt tx) Q := by
  refine HC.of (by decide +kernel) rfl (Nat.le_of_ble_eq_true rfl) ?_
  show HV l mX9_body dp 0 0 0 [some (.ref 72), some (.int x)] [] hSH I J (hRR lt tx) Q
  obtain ⟨h2, h30, hb⟩ := hT
  refine h_iload_n dX9_body_0 rfl ?_
  refine h_iflt (tgt := 21) dX9_body_1 rfl (fun c_1 => ?_) (fun c_1 => ?_)
  · refine h_bipush dX9_body_21 cb_m3 ?_
    refine h_ireturn dX9_body_23 rfl ?_
    exact hB (fun z => (ix_no (by omega) z).1 c_1)
  · refine h_iload_n dX9_body_4 rfl ?_
    refine h_aload_n dX9_body_5 rfl ?_
    refine h_getI dX9_body_6 f_X9_18_6 rfl h2 ?_
    refine h_icmpge (tgt := 21) dX9_body_9 rfl (fun c_9 => ?_) (fun c_9 => ?_)
    · refine h_bipush dX9_body_21 cb_m3 ?_
      refine h_ireturn dX9_body_23 rfl ?_
      exact hB (fun z => (ix_no (by omega) z).2 c_9)
    · obtain ⟨i, hi, rfl⟩ := ix_of (by omega) c_1 c_9
      refine h_aload_n dX9_body_12 rfl ?_
      refine h_getR dX9_body_13 f_X9_25_6 rfl rfl ?_
      refine h_iload_n dX9_body_16 rfl ?_
      refine h_ialdN (j := i) dX9_body_17 rfl rfl (by omega) rfl (hb _ (by omega)) ?_
      refine h_goto (tgt := 23) dX9_body_18 rfl ?_
      refine h_ireturn dX9_body_23 rfl ?_
      exact hO i hi rfl
theorem oU_X9_body_X6 : hOkU mX9_body 1 6 ⟨"FarHeights$Thing", "body", "(I)I"⟩ "FarHeights$Thing" := ⟨oX9_body, k4_202, ⟨by decide +kernel, by decide +kernel, by decide +kernel⟩, k4_203, Or.inr ⟨_, _, _, k4_202, k4_210⟩, _, _, _, rfl, k4_208⟩
theorem c_trace2 {l : Launch} {dp : Nat} {na : Nat} {tr : Nat → Nat} {x : Int32} {I : hI} {J : hJ} {tx : Option Nat} {Q : hQ} (hT : qTr I 72 na tr) (hB : ¬ isIx x na → Q (some (.int (-3))) hSH I J (hRR (some 72) tx)) (hO : ∀ i, i < na → x = nI i → Q (some (.int (nI (tr i)))) hSH I J (hRR (some 72) tx))  : HC l mX11_trace (dp + 1) 0 0 [.ref 0, .int x] hSH I J (hRR (some 72) tx) Q := by
  refine HC.of (by decide +kernel) rfl (Nat.le_of_ble_eq_true rfl) ?_
  show HV l mX11_trace (dp + 1) 0 0 0 [some (.ref 0), some (.int x)] [] hSH I J (hRR (some 72) tx) Q
  refine h_aload_n dX11_trace_0 rfl ?_
  refine h_getR dX11_trace_1 f_X11_79_9 rfl rfl ?_
  refine h_ifnonnull (tgt := 12) dX11_trace_4 rfl ?_
  refine h_aload_n dX11_trace_12 rfl ?_
  refine h_getR dX11_trace_13 f_X11_79_9 rfl rfl ?_
  refine h_iload_n dX11_trace_16 rfl ?_
  refine h_cU1 dX11_trace_17 k4_201 oU_X9_body_X6 rfl rfl ?_
  refine c_body2 hT (fun e => ?_) (fun i hi e => ?_)
  · refine h_ireturn dX11_trace_20 rfl ?_
    exact hB e
  · refine h_ireturn dX11_trace_20 rfl ?_
    exact hO i hi e
theorem c_body3 {l : Launch} {dp : Nat} {na : Nat} {tr : Nat → Nat} {x : Int32} {I : hI} {J : hJ} {lt tx : Option Nat} {Q : hQ} (hT : qTr I 74 na tr) (hB : ¬ isIx x na → Q (some (.int (-3))) hSH I J (hRR lt tx)) (hO : ∀ i, i < na → x = nI i → Q (some (.int (nI (tr i)))) hSH I J (hRR lt tx))  : HC l mX9_body dp 0 0 [.ref 74, .int x] hSH I J (hRR lt tx) Q := by
  refine HC.of (by decide +kernel) rfl (Nat.le_of_ble_eq_true rfl) ?_
  show HV l mX9_body dp 0 0 0 [some (.ref 74), some (.int x)] [] hSH I J (hRR lt tx) Q
  obtain ⟨h2, h30, hb⟩ := hT
  refine h_iload_n dX9_body_0 rfl ?_
  refine h_iflt (tgt := 21) dX9_body_1 rfl (fun c_1 => ?_) (fun c_1 => ?_)
  · refine h_bipush dX9_body_21 cb_m3 ?_
    refine h_ireturn dX9_body_23 rfl ?_
    exact hB (fun z => (ix_no (by omega) z).1 c_1)
  · refine h_iload_n dX9_body_4 rfl ?_
    refine h_aload_n dX9_body_5 rfl ?_
    refine h_getI dX9_body_6 f_X9_18_0 rfl h2 ?_
    refine h_icmpge (tgt := 21) dX9_body_9 rfl (fun c_9 => ?_) (fun c_9 => ?_)
    · refine h_bipush dX9_body_21 cb_m3 ?_
      refine h_ireturn dX9_body_23 rfl ?_
      exact hB (fun z => (ix_no (by omega) z).2 c_9)
    · obtain ⟨i, hi, rfl⟩ := ix_of (by omega) c_1 c_9
      refine h_aload_n dX9_body_12 rfl ?_
      refine h_getR dX9_body_13 f_X9_25_0 rfl rfl ?_
      refine h_iload_n dX9_body_16 rfl ?_
      refine h_ialdN (j := i) dX9_body_17 rfl rfl (by omega) rfl (hb _ (by omega)) ?_
      refine h_goto (tgt := 23) dX9_body_18 rfl ?_
      refine h_ireturn dX9_body_23 rfl ?_
      exact hO i hi rfl
theorem oU_X9_body_X0 : hOkU mX9_body 1 0 ⟨"FarHeights$Thing", "body", "(I)I"⟩ "FarHeights$Thing" := ⟨oX9_body, k4_202, ⟨by decide +kernel, by decide +kernel, by decide +kernel⟩, k4_203, Or.inr ⟨_, _, _, k4_202, k4_210⟩, _, _, _, rfl, k4_204⟩
theorem c_trace3 {l : Launch} {dp : Nat} {na : Nat} {tr : Nat → Nat} {x : Int32} {I : hI} {J : hJ} {tx : Option Nat} {Q : hQ} (hT : qTr I 74 na tr) (hB : ¬ isIx x na → Q (some (.int (-3))) hSH I J (hRR (some 74) tx)) (hO : ∀ i, i < na → x = nI i → Q (some (.int (nI (tr i)))) hSH I J (hRR (some 74) tx))  : HC l mX11_trace (dp + 1) 0 0 [.ref 0, .int x] hSH I J (hRR (some 74) tx) Q := by
  refine HC.of (by decide +kernel) rfl (Nat.le_of_ble_eq_true rfl) ?_
  show HV l mX11_trace (dp + 1) 0 0 0 [some (.ref 0), some (.int x)] [] hSH I J (hRR (some 74) tx) Q
  refine h_aload_n dX11_trace_0 rfl ?_
  refine h_getR dX11_trace_1 f_X11_79_9 rfl rfl ?_
  refine h_ifnonnull (tgt := 12) dX11_trace_4 rfl ?_
  refine h_aload_n dX11_trace_12 rfl ?_
  refine h_getR dX11_trace_13 f_X11_79_9 rfl rfl ?_
  refine h_iload_n dX11_trace_16 rfl ?_
  refine h_cU1 dX11_trace_17 k4_201 oU_X9_body_X0 rfl rfl ?_
  refine c_body3 hT (fun e => ?_) (fun i hi e => ?_)
  · refine h_ireturn dX11_trace_20 rfl ?_
    exact hB e
  · refine h_ireturn dX11_trace_20 rfl ?_
    exact hO i hi e
theorem c_body4 {l : Launch} {dp : Nat} {na : Nat} {tr : Nat → Nat} {x : Int32} {I : hI} {J : hJ} {lt tx : Option Nat} {Q : hQ} (hT : qTr I 76 na tr) (hB : ¬ isIx x na → Q (some (.int (-3))) hSH I J (hRR lt tx)) (hO : ∀ i, i < na → x = nI i → Q (some (.int (nI (tr i)))) hSH I J (hRR lt tx))  : HC l mX9_body dp 0 0 [.ref 76, .int x] hSH I J (hRR lt tx) Q := by
  refine HC.of (by decide +kernel) rfl (Nat.le_of_ble_eq_true rfl) ?_
  show HV l mX9_body dp 0 0 0 [some (.ref 76), some (.int x)] [] hSH I J (hRR lt tx) Q
  obtain ⟨h2, h30, hb⟩ := hT
  refine h_iload_n dX9_body_0 rfl ?_
  refine h_iflt (tgt := 21) dX9_body_1 rfl (fun c_1 => ?_) (fun c_1 => ?_)
  · refine h_bipush dX9_body_21 cb_m3 ?_
    refine h_ireturn dX9_body_23 rfl ?_
    exact hB (fun z => (ix_no (by omega) z).1 c_1)
  · refine h_iload_n dX9_body_4 rfl ?_
    refine h_aload_n dX9_body_5 rfl ?_
    refine h_getI dX9_body_6 f_X9_18_1 rfl h2 ?_
    refine h_icmpge (tgt := 21) dX9_body_9 rfl (fun c_9 => ?_) (fun c_9 => ?_)
    · refine h_bipush dX9_body_21 cb_m3 ?_
      refine h_ireturn dX9_body_23 rfl ?_
      exact hB (fun z => (ix_no (by omega) z).2 c_9)
    · obtain ⟨i, hi, rfl⟩ := ix_of (by omega) c_1 c_9
      refine h_aload_n dX9_body_12 rfl ?_
      refine h_getR dX9_body_13 f_X9_25_1 rfl rfl ?_
      refine h_iload_n dX9_body_16 rfl ?_
      refine h_ialdN (j := i) dX9_body_17 rfl rfl (by omega) rfl (hb _ (by omega)) ?_
      refine h_goto (tgt := 23) dX9_body_18 rfl ?_
      refine h_ireturn dX9_body_23 rfl ?_
      exact hO i hi rfl
theorem oU_X9_body_X1 : hOkU mX9_body 1 1 ⟨"FarHeights$Thing", "body", "(I)I"⟩ "FarHeights$Thing" := ⟨oX9_body, k4_202, ⟨by decide +kernel, by decide +kernel, by decide +kernel⟩, k4_203, Or.inr ⟨_, _, _, k4_202, k4_210⟩, _, _, _, rfl, k4_205⟩
theorem c_trace4 {l : Launch} {dp : Nat} {na : Nat} {tr : Nat → Nat} {x : Int32} {I : hI} {J : hJ} {tx : Option Nat} {Q : hQ} (hT : qTr I 76 na tr) (hB : ¬ isIx x na → Q (some (.int (-3))) hSH I J (hRR (some 76) tx)) (hO : ∀ i, i < na → x = nI i → Q (some (.int (nI (tr i)))) hSH I J (hRR (some 76) tx))  : HC l mX11_trace (dp + 1) 0 0 [.ref 0, .int x] hSH I J (hRR (some 76) tx) Q := by
  refine HC.of (by decide +kernel) rfl (Nat.le_of_ble_eq_true rfl) ?_
  show HV l mX11_trace (dp + 1) 0 0 0 [some (.ref 0), some (.int x)] [] hSH I J (hRR (some 76) tx) Q
  refine h_aload_n dX11_trace_0 rfl ?_
  refine h_getR dX11_trace_1 f_X11_79_9 rfl rfl ?_
  refine h_ifnonnull (tgt := 12) dX11_trace_4 rfl ?_
  refine h_aload_n dX11_trace_12 rfl ?_
  refine h_getR dX11_trace_13 f_X11_79_9 rfl rfl ?_
  refine h_iload_n dX11_trace_16 rfl ?_
  refine h_cU1 dX11_trace_17 k4_201 oU_X9_body_X1 rfl rfl ?_
  refine c_body4 hT (fun e => ?_) (fun i hi e => ?_)
  · refine h_ireturn dX11_trace_20 rfl ?_
    exact hB e
  · refine h_ireturn dX11_trace_20 rfl ?_
    exact hO i hi e
theorem c_body5 {l : Launch} {dp : Nat} {na : Nat} {tr : Nat → Nat} {x : Int32} {I : hI} {J : hJ} {lt tx : Option Nat} {Q : hQ} (hT : qTr I 78 na tr) (hB : ¬ isIx x na → Q (some (.int (-3))) hSH I J (hRR lt tx)) (hO : ∀ i, i < na → x = nI i → Q (some (.int (nI (tr i)))) hSH I J (hRR lt tx))  : HC l mX9_body dp 0 0 [.ref 78, .int x] hSH I J (hRR lt tx) Q := by
  refine HC.of (by decide +kernel) rfl (Nat.le_of_ble_eq_true rfl) ?_
  show HV l mX9_body dp 0 0 0 [some (.ref 78), some (.int x)] [] hSH I J (hRR lt tx) Q
  obtain ⟨h2, h30, hb⟩ := hT
  refine h_iload_n dX9_body_0 rfl ?_
  refine h_iflt (tgt := 21) dX9_body_1 rfl (fun c_1 => ?_) (fun c_1 => ?_)
  · refine h_bipush dX9_body_21 cb_m3 ?_
    refine h_ireturn dX9_body_23 rfl ?_
    exact hB (fun z => (ix_no (by omega) z).1 c_1)
  · refine h_iload_n dX9_body_4 rfl ?_
    refine h_aload_n dX9_body_5 rfl ?_
    refine h_getI dX9_body_6 f_X9_18_2 rfl h2 ?_
    refine h_icmpge (tgt := 21) dX9_body_9 rfl (fun c_9 => ?_) (fun c_9 => ?_)
    · refine h_bipush dX9_body_21 cb_m3 ?_
      refine h_ireturn dX9_body_23 rfl ?_
      exact hB (fun z => (ix_no (by omega) z).2 c_9)
    · obtain ⟨i, hi, rfl⟩ := ix_of (by omega) c_1 c_9
      refine h_aload_n dX9_body_12 rfl ?_
      refine h_getR dX9_body_13 f_X9_25_2 rfl rfl ?_
      refine h_iload_n dX9_body_16 rfl ?_
      refine h_ialdN (j := i) dX9_body_17 rfl rfl (by omega) rfl (hb _ (by omega)) ?_
      refine h_goto (tgt := 23) dX9_body_18 rfl ?_
      refine h_ireturn dX9_body_23 rfl ?_
      exact hO i hi rfl
theorem oU_X9_body_X2 : hOkU mX9_body 1 2 ⟨"FarHeights$Thing", "body", "(I)I"⟩ "FarHeights$Thing" := ⟨oX9_body, k4_202, ⟨by decide +kernel, by decide +kernel, by decide +kernel⟩, k4_203, Or.inr ⟨_, _, _, k4_202, k4_210⟩, _, _, _, rfl, k4_206⟩
theorem c_trace5 {l : Launch} {dp : Nat} {na : Nat} {tr : Nat → Nat} {x : Int32} {I : hI} {J : hJ} {tx : Option Nat} {Q : hQ} (hT : qTr I 78 na tr) (hB : ¬ isIx x na → Q (some (.int (-3))) hSH I J (hRR (some 78) tx)) (hO : ∀ i, i < na → x = nI i → Q (some (.int (nI (tr i)))) hSH I J (hRR (some 78) tx))  : HC l mX11_trace (dp + 1) 0 0 [.ref 0, .int x] hSH I J (hRR (some 78) tx) Q := by
  refine HC.of (by decide +kernel) rfl (Nat.le_of_ble_eq_true rfl) ?_
  show HV l mX11_trace (dp + 1) 0 0 0 [some (.ref 0), some (.int x)] [] hSH I J (hRR (some 78) tx) Q
  refine h_aload_n dX11_trace_0 rfl ?_
  refine h_getR dX11_trace_1 f_X11_79_9 rfl rfl ?_
  refine h_ifnonnull (tgt := 12) dX11_trace_4 rfl ?_
  refine h_aload_n dX11_trace_12 rfl ?_
  refine h_getR dX11_trace_13 f_X11_79_9 rfl rfl ?_
  refine h_iload_n dX11_trace_16 rfl ?_
  refine h_cU1 dX11_trace_17 k4_201 oU_X9_body_X2 rfl rfl ?_
  refine c_body5 hT (fun e => ?_) (fun i hi e => ?_)
  · refine h_ireturn dX11_trace_20 rfl ?_
    exact hB e
  · refine h_ireturn dX11_trace_20 rfl ?_
    exact hO i hi e
theorem c_body6 {l : Launch} {dp : Nat} {na : Nat} {tr : Nat → Nat} {x : Int32} {I : hI} {J : hJ} {lt tx : Option Nat} {Q : hQ} (hT : qTr I 80 na tr) (hB : ¬ isIx x na → Q (some (.int (-3))) hSH I J (hRR lt tx)) (hO : ∀ i, i < na → x = nI i → Q (some (.int (nI (tr i)))) hSH I J (hRR lt tx))  : HC l mX9_body dp 0 0 [.ref 80, .int x] hSH I J (hRR lt tx) Q := by
  refine HC.of (by decide +kernel) rfl (Nat.le_of_ble_eq_true rfl) ?_
  show HV l mX9_body dp 0 0 0 [some (.ref 80), some (.int x)] [] hSH I J (hRR lt tx) Q
  obtain ⟨h2, h30, hb⟩ := hT
  refine h_iload_n dX9_body_0 rfl ?_
  refine h_iflt (tgt := 21) dX9_body_1 rfl (fun c_1 => ?_) (fun c_1 => ?_)
  · refine h_bipush dX9_body_21 cb_m3 ?_
    refine h_ireturn dX9_body_23 rfl ?_
    exact hB (fun z => (ix_no (by omega) z).1 c_1)
  · refine h_iload_n dX9_body_4 rfl ?_
    refine h_aload_n dX9_body_5 rfl ?_
    refine h_getI dX9_body_6 f_X9_18_7 rfl h2 ?_
    refine h_icmpge (tgt := 21) dX9_body_9 rfl (fun c_9 => ?_) (fun c_9 => ?_)
    · refine h_bipush dX9_body_21 cb_m3 ?_
      refine h_ireturn dX9_body_23 rfl ?_
      exact hB (fun z => (ix_no (by omega) z).2 c_9)
    · obtain ⟨i, hi, rfl⟩ := ix_of (by omega) c_1 c_9
      refine h_aload_n dX9_body_12 rfl ?_
      refine h_getR dX9_body_13 f_X9_25_7 rfl rfl ?_
      refine h_iload_n dX9_body_16 rfl ?_
      refine h_ialdN (j := i) dX9_body_17 rfl rfl (by omega) rfl (hb _ (by omega)) ?_
      refine h_goto (tgt := 23) dX9_body_18 rfl ?_
      refine h_ireturn dX9_body_23 rfl ?_
      exact hO i hi rfl
theorem oU_X9_body_X7 : hOkU mX9_body 1 7 ⟨"FarHeights$Thing", "body", "(I)I"⟩ "FarHeights$Thing" := ⟨oX9_body, k4_202, ⟨by decide +kernel, by decide +kernel, by decide +kernel⟩, k4_203, Or.inr ⟨_, _, _, k4_202, k4_210⟩, _, _, _, rfl, k4_209⟩
theorem c_trace6 {l : Launch} {dp : Nat} {na : Nat} {tr : Nat → Nat} {x : Int32} {I : hI} {J : hJ} {tx : Option Nat} {Q : hQ} (hT : qTr I 80 na tr) (hB : ¬ isIx x na → Q (some (.int (-3))) hSH I J (hRR (some 80) tx)) (hO : ∀ i, i < na → x = nI i → Q (some (.int (nI (tr i)))) hSH I J (hRR (some 80) tx))  : HC l mX11_trace (dp + 1) 0 0 [.ref 0, .int x] hSH I J (hRR (some 80) tx) Q := by
  refine HC.of (by decide +kernel) rfl (Nat.le_of_ble_eq_true rfl) ?_
  show HV l mX11_trace (dp + 1) 0 0 0 [some (.ref 0), some (.int x)] [] hSH I J (hRR (some 80) tx) Q
  refine h_aload_n dX11_trace_0 rfl ?_
  refine h_getR dX11_trace_1 f_X11_79_9 rfl rfl ?_
  refine h_ifnonnull (tgt := 12) dX11_trace_4 rfl ?_
  refine h_aload_n dX11_trace_12 rfl ?_
  refine h_getR dX11_trace_13 f_X11_79_9 rfl rfl ?_
  refine h_iload_n dX11_trace_16 rfl ?_
  refine h_cU1 dX11_trace_17 k4_201 oU_X9_body_X7 rfl rfl ?_
  refine c_body6 hT (fun e => ?_) (fun i hi e => ?_)
  · refine h_ireturn dX11_trace_20 rfl ?_
    exact hB e
  · refine h_ireturn dX11_trace_20 rfl ?_
    exact hO i hi e
theorem c_trace0 {l : Launch} {dp : Nat} {x : Int32} {I : hI} {J : hJ} {tx : Option Nat} {Q : hQ} (hQ : Q (some (.int (-3))) hSH I J (hRR none tx))  : HC l mX11_trace (dp + 1) 0 0 [.ref 0, .int x] hSH I J (hRR none tx) Q := by
  refine HC.of (by decide +kernel) rfl (Nat.le_of_ble_eq_true rfl) ?_
  show HV l mX11_trace (dp + 1) 0 0 0 [some (.ref 0), some (.int x)] [] hSH I J (hRR none tx) Q
  refine h_aload_n dX11_trace_0 rfl ?_
  refine h_getN dX11_trace_1 f_X11_79_9 rfl rfl ?_
  refine h_ifnonnullN dX11_trace_4 ?_
  refine h_bipush dX11_trace_7 cb_m3 ?_
  refine h_goto (tgt := 20) dX11_trace_9 rfl ?_
  refine h_ireturn dX11_trace_20 rfl ?_
  exact hQ
theorem r_trace {l : Launch} {dp : Nat} {na : Nat} {tr : Nat → Nat} {x : Int32} {I : hI} {J : hJ} {lt tx : Option Nat} {Q : hQ} (hT : rTr I na tr) (hB : ¬ isIx x na → Q (some (.int (-3))) hSH I J (hRR lt tx)) (hO : ∀ i, i < na → x = nI i → Q (some (.int (nI (tr i)))) hSH I J (hRR lt tx))  : HC l mX12_trace (dp + 1) 0 0 [.ref 82, .int x] hSH I J (hRR lt tx) Q := by
  refine HC.of (by decide +kernel) rfl (Nat.le_of_ble_eq_true rfl) ?_
  show HV l mX12_trace (dp + 1) 0 0 0 [some (.ref 82), some (.int x)] [] hSH I J (hRR lt tx) Q
  obtain ⟨h2, h30, hb⟩ := hT
  refine h_iload_n dX12_trace_0 rfl ?_
  refine h_iconst dX12_trace_1 ci_0 ?_
  refine h_aload_n dX12_trace_2 rfl ?_
  refine h_getI dX12_trace_3 f_X12_361_10 rfl h2 ?_
  refine h_iconst dX12_trace_6 ci_1 ?_
  refine h_isub dX12_trace_7 ?_
  refine h_cS3 dX12_trace_8 k5_172 oSX12_in rfl ?_
  refine c_X12_in (fun b1 => ?_) (fun b1 => ?_)
  · obtain ⟨i, hi, rfl⟩ := (isIx_iff (by omega)).mp b1
    refine h_ifeq (tgt := 23) dX12_trace_11 rfl (fun c => absurd c (by decide)) (fun _ => ?_)
    refine h_aload_n dX12_trace_14 rfl ?_
    refine h_getR dX12_trace_15 f_X12_93_10 rfl rfl ?_
    refine h_iload_n dX12_trace_18 rfl ?_
    refine h_ialdN (j := i) dX12_trace_19 rfl rfl (by omega) rfl (hb _ (by omega)) ?_
    refine h_goto (tgt := 25) dX12_trace_20 rfl ?_
    refine h_ireturn dX12_trace_25 rfl ?_
    exact hO i hi rfl
  · refine h_ifeq (tgt := 23) dX12_trace_11 rfl (fun _ => ?_) (fun c => absurd (by decide) c)
    refine h_bipush dX12_trace_23 cb_m3 ?_
    refine h_ireturn dX12_trace_25 rfl ?_
    exact hB (fun z => b1 ((isIx_iff (by omega)).mpr z))
