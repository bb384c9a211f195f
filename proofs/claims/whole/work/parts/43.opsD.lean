theorem c_point {l : Launch} {dp : Nat} {ns nl np ml nk nw : Nat} {pl fa fb sl pp pm ki fr tg wh bw : Nat → Nat} {rs sn : Nat → Int32} {fl : Nat → Bool} {qw : Nat → Nat → Nat → Nat → Bool} {I : hI} {J : hJ} {lt tx : Option Nat} {x y : Int32} {Q : hQ} (hG : cG I ns nl np ml nk nw pl fa fb sl pp pm ki fr tg wh bw rs sn fl qw) (hB : ¬ ((nI 0 ≤ x ∧ x ≤ nI 999) ∧ nI 0 ≤ y ∧ y ≤ nI 99) → Q (some (.int (-1))) hSH I J (hRR lt tx)) (hF : np = 8 → Q (some (.int (-2))) hSH I J (hRR lt tx)) (hO : ∀ a m, x = nI a → y = nI m → a ≤ 999 → m ≤ 99 → np < 8 → Q (some (.int (nI np))) hSH (upI (upI (upI I 18 np (nI a)) 19 np (nI m)) 1 2 (nI (np + 1))) J (hRR lt tx)) : HC l mX11_point (dp + 2) 0 0 [.ref 0, .int x, .int y] hSH I J (hRR lt tx) Q := by
  refine HC.of (by decide +kernel) rfl (Nat.le_of_ble_eq_true rfl) ?_
  show HV l mX11_point (dp + 2) 0 0 0 [some (.ref 0), some (.int x), some (.int y)] [] hSH I J (hRR lt tx) Q
  obtain ⟨⟨hN, hdo, hla, hlv⟩, hw, ⟨hnp, hml, hnk, hpt, hsi, hbt⟩, ⟨hn8, hm2, hn24, hpW, hsW⟩, hL⟩ := id hG
  obtain ⟨hns, hnl, hpl, hlg⟩ := id hN
  obtain ⟨hn6, hl12, hW, hp99, hr99⟩ := id hw
  refine h_iload_n dX11_point_0 rfl ?_
  refine h_iconst dX11_point_1 ci_0 ?_
  refine h_sipush dX11_point_2 cs_999 ?_
  refine h_cS3 dX11_point_5 k2_154 oSX11_within rfl ?_
  refine c_X11_within (fun b1 => ?_) (fun b1 => ?_)
  · refine h_ifeq (tgt := 18) dX11_point_8 rfl (fun c => absurd c (by decide)) (fun _ => ?_)
    refine h_iload_n dX11_point_11 rfl ?_
    refine h_cS1 dX11_point_12 k3_0 oSX11_isMass rfl ?_
    refine c_X11_isMass (fun b2 => ?_) (fun b2 => ?_)
    · obtain ⟨a, rfl, -, ha⟩ := rng_ex (by omega) (by omega) b1.1 b1.2
      obtain ⟨m, rfl, -, hm⟩ := rng_ex (by omega) (by omega) b2.1 b2.2
      refine h_ifne (tgt := 20) dX11_point_15 rfl (fun _ => ?_) (fun c => absurd c (by decide))
      refine h_aload_n dX11_point_20 rfl ?_
      refine h_getR dX11_point_21 f_X11_10_9 rfl rfl ?_
      refine h_getI dX11_point_24 f_X11_166_8 rfl hnp ?_
      refine h_bipush dX11_point_27 cb_8 ?_
      refine h_icmplt (tgt := 35) dX11_point_29 rfl (fun c_29 => ?_) (fun c_29 => ?_)
      · rw [nI_ltI (by omega) (by omega)] at c_29
        refine h_aload_n dX11_point_35 rfl ?_
        refine h_getR dX11_point_36 f_X11_10_9 rfl rfl ?_
        refine h_iload_n dX11_point_39 rfl ?_
        refine h_iload_n dX11_point_40 rfl ?_
        refine h_cV2 dX11_point_41 k3_3 oVX10_addPoint rfl rfl ?_
        refine c_addPoint hG (by omega) ?_
        refine h_ireturn dX11_point_44 rfl ?_
        exact hO a m rfl rfl ha hm (by omega)
      · rw [nI_ltI (by omega) (by omega)] at c_29
        refine h_bipush dX11_point_32 cb_m2 ?_
        refine h_ireturn dX11_point_34 rfl ?_
        exact hF (by omega)
    · refine h_ifne (tgt := 20) dX11_point_15 rfl (fun c => absurd (by decide) c) (fun _ => ?_)
      refine h_iconst dX11_point_18 ci_m1 ?_
      refine h_ireturn dX11_point_19 rfl ?_
      exact hB (fun z => b2 z.2)
  · refine h_ifeq (tgt := 18) dX11_point_8 rfl (fun _ => ?_) (fun c => absurd (by decide) c)
    refine h_iconst dX11_point_18 ci_m1 ?_
    refine h_ireturn dX11_point_19 rfl ?_
    exact hB (fun z => b1 z.1)
theorem r_point {l : Launch} {dp : Nat} {ns nl np ml nk nw : Nat} {pl fa fb sl pp pm ki fr tg wh bw : Nat → Nat} {rs sn : Nat → Int32} {fl : Nat → Bool} {qw : Nat → Nat → Nat → Nat → Bool} {I : hI} {J : hJ} {lt tx : Option Nat} {x y : Int32} {Q : hQ} (hG : rG I ns nl np ml nk nw pl fa fb sl pp pm ki fr tg wh bw rs sn fl qw) (hB : ¬ ((nI 0 ≤ x ∧ x ≤ nI 999) ∧ nI 0 ≤ y ∧ y ≤ nI 99) → Q (some (.int (-1))) hSH I J (hRR lt tx)) (hF : np = 8 → Q (some (.int (-2))) hSH I J (hRR lt tx)) (hO : ∀ a m, x = nI a → y = nI m → a ≤ 999 → m ≤ 99 → np < 8 → Q (some (.int (nI np))) hSH (upI (upI (upI I 85 (2 * np) (nI a)) 85 (2 * np + 1) (nI m)) 82 4 (nI (np + 1))) J (hRR lt tx)) : HC l mX12_point (dp + 1) 0 0 [.ref 82, .int x, .int y] hSH I J (hRR lt tx) Q := by
  refine HC.of (by decide +kernel) rfl (Nat.le_of_ble_eq_true rfl) ?_
  show HV l mX12_point (dp + 1) 0 0 0 [some (.ref 82), some (.int x), some (.int y)] [] hSH I J (hRR lt tx) Q
  obtain ⟨hN, hw, ⟨hnp, hml, hnk, hpt, hsi⟩, ⟨hn8, hm2, hn24, hpW, hsW⟩, hL⟩ := id hG
  obtain ⟨hns, hnl, hpl, hlg⟩ := id hN
  obtain ⟨hn6, hl12, hW, hp99, hr99⟩ := id hw
  refine h_iload_n dX12_point_0 rfl ?_
  refine h_iconst dX12_point_1 ci_0 ?_
  refine h_sipush dX12_point_2 cs_999 ?_
  refine h_cS3 dX12_point_5 k5_172 oSX12_in rfl ?_
  refine c_X12_in (fun b1 => ?_) (fun b1 => ?_)
  · refine h_ifeq (tgt := 21) dX12_point_8 rfl (fun c => absurd c (by decide)) (fun _ => ?_)
    refine h_iload_n dX12_point_11 rfl ?_
    refine h_iconst dX12_point_12 ci_0 ?_
    refine h_bipush dX12_point_13 cb_99 ?_
    refine h_cS3 dX12_point_15 k5_172 oSX12_in rfl ?_
    refine c_X12_in (fun b2 => ?_) (fun b2 => ?_)
    · obtain ⟨a, rfl, -, ha⟩ := rng_ex (by omega) (by omega) b1.1 b1.2
      obtain ⟨m, rfl, -, hm⟩ := rng_ex (by omega) (by omega) b2.1 b2.2
      refine h_ifne (tgt := 23) dX12_point_18 rfl (fun _ => ?_) (fun c => absurd c (by decide))
      refine h_aload_n dX12_point_23 rfl ?_
      refine h_getI dX12_point_24 f_X12_110_10 rfl hnp ?_
      refine h_bipush dX12_point_27 cb_8 ?_
      refine h_icmpne (tgt := 35) dX12_point_29 rfl (fun c_29 => ?_) (fun c_29 => ?_)
      · rw [nI_eq (by omega) (by omega)] at c_29
        refine h_aload_n dX12_point_35 rfl ?_
        refine h_getR dX12_point_36 f_X12_16_10 rfl rfl ?_
        refine h_iconst dX12_point_39 ci_2 ?_
        refine h_aload_n dX12_point_40 rfl ?_
        refine h_getI dX12_point_41 f_X12_110_10 rfl hnp ?_
        refine h_imulN dX12_point_44 ?_
        refine h_iload_n dX12_point_45 rfl ?_
        refine h_iastN (j := 2 * np) dX12_point_46 rfl rfl (by omega) rfl ?_
        refine h_aload_n dX12_point_47 rfl ?_
        refine h_getR dX12_point_48 f_X12_16_10 rfl rfl ?_
        refine h_iconst dX12_point_51 ci_2 ?_
        refine h_aload_n dX12_point_52 rfl ?_
        refine h_getI dX12_point_53 f_X12_110_10 rfl hnp ?_
        refine h_imulN dX12_point_56 ?_
        refine h_iconst dX12_point_57 ci_1 ?_
        refine h_iaddN dX12_point_58 ?_
        refine h_iload_n dX12_point_59 rfl ?_
        refine h_iastN (j := (2 * np) + 1) dX12_point_60 rfl rfl (by omega) rfl ?_
        refine h_aload_n dX12_point_61 rfl ?_
        refine h_dup dX12_point_62 rfl ?_
        refine h_getI dX12_point_63 f_X12_110_10 rfl hnp ?_
        refine h_iconst dX12_point_66 ci_1 ?_
        refine h_iaddN dX12_point_67 ?_
        refine h_putI dX12_point_68 f_X12_110_10 p_X12_10_4 (fun h => by cases h) rfl ?_
        refine h_aload_n dX12_point_71 rfl ?_
        refine h_getI dX12_point_72 f_X12_110_10 rfl (show _ = nI (np + 1) from rfl) ?_
        refine h_iconst dX12_point_75 ci_1 ?_
        refine h_isubN dX12_point_76 (by omega) ?_
        refine h_ireturn dX12_point_77 rfl ?_
        rw [Nat.add_sub_cancel]
        exact hO a m rfl rfl ha hm (by omega)
      · rw [nI_eq (by omega) (by omega)] at c_29
        refine h_bipush dX12_point_32 cb_m2 ?_
        refine h_ireturn dX12_point_34 rfl ?_
        exact hF (by omega)
    · refine h_ifne (tgt := 23) dX12_point_18 rfl (fun c => absurd (by decide) c) (fun _ => ?_)
      refine h_iconst dX12_point_21 ci_m1 ?_
      refine h_ireturn dX12_point_22 rfl ?_
      exact hB (fun z => b2 z.2)
  · refine h_ifeq (tgt := 21) dX12_point_8 rfl (fun _ => ?_) (fun c => absurd (by decide) c)
    refine h_iconst dX12_point_21 ci_m1 ?_
    refine h_ireturn dX12_point_22 rfl ?_
    exact hB (fun z => b1 z.1)
theorem c_mass {l : Launch} {dp : Nat} {ns nl np ml nk nw : Nat} {pl fa fb sl pp pm ki fr tg wh bw : Nat → Nat} {rs sn : Nat → Int32} {fl : Nat → Bool} {qw : Nat → Nat → Nat → Nat → Bool} {I : hI} {J : hJ} {lt tx : Option Nat} {x y : Int32} {Q : hQ} (hG : cG I ns nl np ml nk nw pl fa fb sl pp pm ki fr tg wh bw rs sn fl qw) (hB : ¬ (isIx x np ∧ nI 0 ≤ y ∧ y ≤ nI 99) → Q (some (.int (-1))) hSH I J (hRR lt tx)) (hO : ∀ p m, x = nI p → y = nI m → p < np → m ≤ 99 → Q (some (.int (nI (pm p)))) hSH (upI I 19 p (nI m)) J (hRR lt tx)) : HC l mX11_mass (dp + 2) 0 0 [.ref 0, .int x, .int y] hSH I J (hRR lt tx) Q := by
  refine HC.of (by decide +kernel) rfl (Nat.le_of_ble_eq_true rfl) ?_
  show HV l mX11_mass (dp + 2) 0 0 0 [some (.ref 0), some (.int x), some (.int y), none] [] hSH I J (hRR lt tx) Q
  obtain ⟨⟨hN, hdo, hla, hlv⟩, hw, ⟨hnp, hml, hnk, hpt, hsi, hbt⟩, ⟨hn8, hm2, hn24, hpW, hsW⟩, hL⟩ := id hG
  obtain ⟨hns, hnl, hpl, hlg⟩ := id hN
  obtain ⟨hn6, hl12, hW, hp99, hr99⟩ := id hw
  refine h_aload_n dX11_mass_0 rfl ?_
  refine h_iload_n dX11_mass_1 rfl ?_
  refine h_cV1 dX11_mass_2 k3_11 oVX11_isPoint rfl rfl ?_
  refine c_isPoint (n := np) hnp (by omega) (fun b1 => ?_) (fun b1 => ?_)
  · refine h_ifeq (tgt := 15) dX11_mass_5 rfl (fun c => absurd c (by decide)) (fun _ => ?_)
    refine h_iload_n dX11_mass_8 rfl ?_
    refine h_cS1 dX11_mass_9 k3_0 oSX11_isMass rfl ?_
    refine c_X11_isMass (fun b2 => ?_) (fun b2 => ?_)
    · obtain ⟨p, hp, rfl⟩ := b1
      obtain ⟨m, rfl, -, hm⟩ := rng_ex (by omega) (by omega) b2.1 b2.2
      refine h_ifne (tgt := 17) dX11_mass_12 rfl (fun _ => ?_) (fun c => absurd c (by decide))
      refine h_aload_n dX11_mass_17 rfl ?_
      refine h_getR dX11_mass_18 f_X11_10_9 rfl rfl ?_
      refine h_getR dX11_mass_21 f_X11_176_8 rfl rfl ?_
      refine h_iload_n dX11_mass_24 rfl ?_
      refine h_ialdN (j := p) dX11_mass_25 rfl rfl (by omega) rfl (hpt _ (by omega)).2 ?_
      refine h_istore_n dX11_mass_26 (Nat.le_of_ble_eq_true rfl) ?_
      refine h_aload_n dX11_mass_27 rfl ?_
      refine h_getR dX11_mass_28 f_X11_10_9 rfl rfl ?_
      refine h_getR dX11_mass_31 f_X11_176_8 rfl rfl ?_
      refine h_iload_n dX11_mass_34 rfl ?_
      refine h_iload_n dX11_mass_35 rfl ?_
      refine h_iastN (j := p) dX11_mass_36 rfl rfl (by omega) rfl ?_
      refine h_iload_n dX11_mass_37 rfl ?_
      refine h_ireturn dX11_mass_38 rfl ?_
      exact hO p m rfl rfl hp hm
    · refine h_ifne (tgt := 17) dX11_mass_12 rfl (fun c => absurd (by decide) c) (fun _ => ?_)
      refine h_iconst dX11_mass_15 ci_m1 ?_
      refine h_ireturn dX11_mass_16 rfl ?_
      exact hB (fun z => b2 z.2)
  · refine h_ifeq (tgt := 15) dX11_mass_5 rfl (fun _ => ?_) (fun c => absurd (by decide) c)
    refine h_iconst dX11_mass_15 ci_m1 ?_
    refine h_ireturn dX11_mass_16 rfl ?_
    exact hB (fun z => b1 z.1)
theorem r_mass {l : Launch} {dp : Nat} {ns nl np ml nk nw : Nat} {pl fa fb sl pp pm ki fr tg wh bw : Nat → Nat} {rs sn : Nat → Int32} {fl : Nat → Bool} {qw : Nat → Nat → Nat → Nat → Bool} {I : hI} {J : hJ} {lt tx : Option Nat} {x y : Int32} {Q : hQ} (hG : rG I ns nl np ml nk nw pl fa fb sl pp pm ki fr tg wh bw rs sn fl qw) (hB : ¬ (isIx x np ∧ nI 0 ≤ y ∧ y ≤ nI 99) → Q (some (.int (-1))) hSH I J (hRR lt tx)) (hO : ∀ p m, x = nI p → y = nI m → p < np → m ≤ 99 → Q (some (.int (nI (pm p)))) hSH (upI I 85 (2 * p + 1) (nI m)) J (hRR lt tx)) : HC l mX12_mass (dp + 2) 0 0 [.ref 82, .int x, .int y] hSH I J (hRR lt tx) Q := by
  refine HC.of (by decide +kernel) rfl (Nat.le_of_ble_eq_true rfl) ?_
  show HV l mX12_mass (dp + 2) 0 0 0 [some (.ref 82), some (.int x), some (.int y), none] [] hSH I J (hRR lt tx) Q
  obtain ⟨hN, hw, ⟨hnp, hml, hnk, hpt, hsi⟩, ⟨hn8, hm2, hn24, hpW, hsW⟩, hL⟩ := id hG
  obtain ⟨hns, hnl, hpl, hlg⟩ := id hN
  obtain ⟨hn6, hl12, hW, hp99, hr99⟩ := id hw
  refine h_aload_n dX12_mass_0 rfl ?_
  refine h_iload_n dX12_mass_1 rfl ?_
  refine h_cV1 dX12_mass_2 k5_238 oVX12_isPoint rfl rfl ?_
  refine r_isPoint (n := np) hnp (by omega) (fun b1 => ?_) (fun b1 => ?_)
  · refine h_ifeq (tgt := 18) dX12_mass_5 rfl (fun c => absurd c (by decide)) (fun _ => ?_)
    refine h_iload_n dX12_mass_8 rfl ?_
    refine h_iconst dX12_mass_9 ci_0 ?_
    refine h_bipush dX12_mass_10 cb_99 ?_
    refine h_cS3 dX12_mass_12 k5_172 oSX12_in rfl ?_
    refine c_X12_in (fun b2 => ?_) (fun b2 => ?_)
    · obtain ⟨p, hp, rfl⟩ := b1
      obtain ⟨m, rfl, -, hm⟩ := rng_ex (by omega) (by omega) b2.1 b2.2
      refine h_ifne (tgt := 20) dX12_mass_15 rfl (fun _ => ?_) (fun c => absurd c (by decide))
      refine h_aload_n dX12_mass_20 rfl ?_
      refine h_getR dX12_mass_21 f_X12_16_10 rfl rfl ?_
      refine h_iconst dX12_mass_24 ci_2 ?_
      refine h_iload_n dX12_mass_25 rfl ?_
      refine h_imulN dX12_mass_26 ?_
      refine h_iconst dX12_mass_27 ci_1 ?_
      refine h_iaddN dX12_mass_28 ?_
      refine h_ialdN (j := (2 * p) + 1) dX12_mass_29 rfl rfl (by omega) rfl (hpt p (by omega)).2 ?_
      refine h_istore_n dX12_mass_30 (Nat.le_of_ble_eq_true rfl) ?_
      refine h_aload_n dX12_mass_31 rfl ?_
      refine h_getR dX12_mass_32 f_X12_16_10 rfl rfl ?_
      refine h_iconst dX12_mass_35 ci_2 ?_
      refine h_iload_n dX12_mass_36 rfl ?_
      refine h_imulN dX12_mass_37 ?_
      refine h_iconst dX12_mass_38 ci_1 ?_
      refine h_iaddN dX12_mass_39 ?_
      refine h_iload_n dX12_mass_40 rfl ?_
      refine h_iastN (j := (2 * p) + 1) dX12_mass_41 rfl rfl (by omega) rfl ?_
      refine h_iload_n dX12_mass_42 rfl ?_
      refine h_ireturn dX12_mass_43 rfl ?_
      exact hO p m rfl rfl hp hm
    · refine h_ifne (tgt := 20) dX12_mass_15 rfl (fun c => absurd (by decide) c) (fun _ => ?_)
      refine h_iconst dX12_mass_18 ci_m1 ?_
      refine h_ireturn dX12_mass_19 rfl ?_
      exact hB (fun z => b2 z.2)
  · refine h_ifeq (tgt := 18) dX12_mass_5 rfl (fun _ => ?_) (fun c => absurd (by decide) c)
    refine h_iconst dX12_mass_18 ci_m1 ?_
    refine h_ireturn dX12_mass_19 rfl ?_
    exact hB (fun z => b1 z.1)
theorem c_masses {l : Launch} {dp : Nat} {ns nl np ml nk nw : Nat} {pl fa fb sl pp pm ki fr tg wh bw : Nat → Nat} {rs sn : Nat → Int32} {fl : Nat → Bool} {qw : Nat → Nat → Nat → Nat → Bool} {I : hI} {J : hJ} {lt tx : Option Nat} {x : Int32} {Q : hQ} (hG : cG I ns nl np ml nk nw pl fa fb sl pp pm ki fr tg wh bw rs sn fl qw) (hB : ¬ (nI 0 ≤ x ∧ x ≤ nI 2) → Q (some (.int (-1))) hSH I J (hRR lt tx)) (hO : ∀ m, x = nI m → m ≤ 2 → Q (some (.int (nI ml))) hSH (upI I 1 5 (nI m)) J (hRR lt tx)) : HC l mX11_masses (dp + 1) 0 0 [.ref 0, .int x] hSH I J (hRR lt tx) Q := by
  refine HC.of (by decide +kernel) rfl (Nat.le_of_ble_eq_true rfl) ?_
  show HV l mX11_masses (dp + 1) 0 0 0 [some (.ref 0), some (.int x), none] [] hSH I J (hRR lt tx) Q
  obtain ⟨⟨hN, hdo, hla, hlv⟩, hw, ⟨hnp, hml, hnk, hpt, hsi, hbt⟩, ⟨hn8, hm2, hn24, hpW, hsW⟩, hL⟩ := id hG
  obtain ⟨hns, hnl, hpl, hlg⟩ := id hN
  obtain ⟨hn6, hl12, hW, hp99, hr99⟩ := id hw
  refine h_iload_n dX11_masses_0 rfl ?_
  refine h_iconst dX11_masses_1 ci_0 ?_
  refine h_iconst dX11_masses_2 ci_2 ?_
  refine h_cS3 dX11_masses_3 k2_154 oSX11_within rfl ?_
  refine c_X11_within (fun b1 => ?_) (fun b1 => ?_)
  · obtain ⟨m, rfl, -, hm⟩ := rng_ex (by omega) (by omega) b1.1 b1.2
    refine h_ifne (tgt := 11) dX11_masses_6 rfl (fun _ => ?_) (fun c => absurd c (by decide))
    refine h_aload_n dX11_masses_11 rfl ?_
    refine h_getR dX11_masses_12 f_X11_10_9 rfl rfl ?_
    refine h_getI dX11_masses_15 f_X11_179_8 rfl hml ?_
    refine h_istore_n dX11_masses_18 (Nat.le_of_ble_eq_true rfl) ?_
    refine h_aload_n dX11_masses_19 rfl ?_
    refine h_getR dX11_masses_20 f_X11_10_9 rfl rfl ?_
    refine h_iload_n dX11_masses_23 rfl ?_
    refine h_putI dX11_masses_24 f_X11_179_8 p_X11_8_5 (fun h => by cases h) rfl ?_
    refine h_iload_n dX11_masses_27 rfl ?_
    refine h_ireturn dX11_masses_28 rfl ?_
    exact hO m rfl hm
  · refine h_ifne (tgt := 11) dX11_masses_6 rfl (fun c => absurd (by decide) c) (fun _ => ?_)
    refine h_iconst dX11_masses_9 ci_m1 ?_
    refine h_ireturn dX11_masses_10 rfl ?_
    exact hB b1
theorem r_masses {l : Launch} {dp : Nat} {ns nl np ml nk nw : Nat} {pl fa fb sl pp pm ki fr tg wh bw : Nat → Nat} {rs sn : Nat → Int32} {fl : Nat → Bool} {qw : Nat → Nat → Nat → Nat → Bool} {I : hI} {J : hJ} {lt tx : Option Nat} {x : Int32} {Q : hQ} (hG : rG I ns nl np ml nk nw pl fa fb sl pp pm ki fr tg wh bw rs sn fl qw) (hB : ¬ (nI 0 ≤ x ∧ x ≤ nI 2) → Q (some (.int (-1))) hSH I J (hRR lt tx)) (hO : ∀ m, x = nI m → m ≤ 2 → Q (some (.int (nI ml))) hSH (upI I 82 6 (nI m)) J (hRR lt tx)) : HC l mX12_masses (dp + 1) 0 0 [.ref 82, .int x] hSH I J (hRR lt tx) Q := by
  refine HC.of (by decide +kernel) rfl (Nat.le_of_ble_eq_true rfl) ?_
  show HV l mX12_masses (dp + 1) 0 0 0 [some (.ref 82), some (.int x), none] [] hSH I J (hRR lt tx) Q
  obtain ⟨hN, hw, ⟨hnp, hml, hnk, hpt, hsi⟩, ⟨hn8, hm2, hn24, hpW, hsW⟩, hL⟩ := id hG
  obtain ⟨hns, hnl, hpl, hlg⟩ := id hN
  obtain ⟨hn6, hl12, hW, hp99, hr99⟩ := id hw
  refine h_iload_n dX12_masses_0 rfl ?_
  refine h_iconst dX12_masses_1 ci_0 ?_
  refine h_iconst dX12_masses_2 ci_2 ?_
  refine h_cS3 dX12_masses_3 k5_172 oSX12_in rfl ?_
  refine c_X12_in (fun b1 => ?_) (fun b1 => ?_)
  · obtain ⟨m, rfl, -, hm⟩ := rng_ex (by omega) (by omega) b1.1 b1.2
    refine h_ifne (tgt := 11) dX12_masses_6 rfl (fun _ => ?_) (fun c => absurd c (by decide))
    refine h_aload_n dX12_masses_11 rfl ?_
    refine h_getI dX12_masses_12 f_X12_142_10 rfl hml ?_
    refine h_istore_n dX12_masses_15 (Nat.le_of_ble_eq_true rfl) ?_
    refine h_aload_n dX12_masses_16 rfl ?_
    refine h_iload_n dX12_masses_17 rfl ?_
    refine h_putI dX12_masses_18 f_X12_142_10 p_X12_10_6 (fun h => by cases h) rfl ?_
    refine h_iload_n dX12_masses_21 rfl ?_
    refine h_ireturn dX12_masses_22 rfl ?_
    exact hO m rfl hm
  · refine h_ifne (tgt := 11) dX12_masses_6 rfl (fun c => absurd (by decide) c) (fun _ => ?_)
    refine h_iconst dX12_masses_9 ci_m1 ?_
    refine h_ireturn dX12_masses_10 rfl ?_
    exact hB b1
def sightOk (ns np : Nat) (x y z u v : Int32) : Prop := (nI 1 ≤ x ∧ x ≤ nI 5) ∧ isIx y ns ∧ isIx z np ∧ (-99 ≤ u ∧ u ≤ nI 999) ∧ isWh v
theorem r999 {r : Int32} (h : -99 ≤ r ∧ r ≤ nI 999) : -99 ≤ r.toInt ∧ r.toInt ≤ 999 := by
  have h1 := Int32.le_iff_toInt_le.mp h.1
  have h2 := Int32.le_iff_toInt_le.mp h.2
  rw [nI_toInt (by omega)] at h2
  rw [show (-99 : Int32).toInt = -99 by decide] at h1
  exact ⟨h1, h2⟩
theorem c_sight {l : Launch} {dp : Nat} {ns nl np ml nk nw : Nat} {pl fa fb sl pp pm ki fr tg wh bw : Nat → Nat} {rs sn : Nat → Int32} {fl : Nat → Bool} {qw : Nat → Nat → Nat → Nat → Bool} {I : hI} {J : hJ} {lt tx : Option Nat} {x y z u v : Int32} {Q : hQ} (hG : cG I ns nl np ml nk nw pl fa fb sl pp pm ki fr tg wh bw rs sn fl qw) (hB : ¬ sightOk ns np x y z u v → Q (some (.int (-1))) hSH I J (hRR lt tx)) (hF : nk = 24 → Q (some (.int (-2))) hSH I J (hRR lt tx)) (hO : ∀ kn s p w, x = nI kn → y = nI s → z = nI p → v = nI w → 1 ≤ kn → kn ≤ 5 → s < ns → p < np → -99 ≤ u.toInt → u.toInt ≤ 999 → w / 100 ≤ 23 → w % 100 ≤ 40 → nk < 24 → Q (some (.int (nI nk))) hSH (upI (upI (upI (upI (upI (upI (upI I 20 nk (nI kn)) 21 nk (nI s)) 22 nk (nI p)) 23 nk u) 24 nk (nI w)) 1 12 (I 1 12 &&& ((nI 1 <<< (nI nk &&& 31)) ^^^ -1))) 1 6 (nI (nk + 1))) J (hRR lt tx)) : HC l mX11_sight (dp + 2) 0 0 [.ref 0, .int x, .int y, .int z, .int u, .int v] hSH I J (hRR lt tx) Q := by
  refine HC.of (by decide +kernel) rfl (Nat.le_of_ble_eq_true rfl) ?_
  show HV l mX11_sight (dp + 2) 0 0 0 [some (.ref 0), some (.int x), some (.int y), some (.int z), some (.int u), some (.int v)] [] hSH I J (hRR lt tx) Q
  obtain ⟨⟨hN, hdo, hla, hlv⟩, hw, ⟨hnp, hml, hnk, hpt, hsi, hbt⟩, ⟨hn8, hm2, hn24, hpW, hsW⟩, hL⟩ := id hG
  obtain ⟨hns, hnl, hpl, hlg⟩ := id hN
  obtain ⟨hn6, hl12, hW, hp99, hr99⟩ := id hw
  refine h_iload_n dX11_sight_0 rfl ?_
  refine h_cS1 dX11_sight_1 k3_23 oSX11_isKind rfl ?_
  refine c_X11_isKind (fun b1 => ?_) (fun b1 => ?_)
  · refine h_ifeq (tgt := 39) dX11_sight_4 rfl (fun c => absurd c (by decide)) (fun _ => ?_)
    refine h_aload_n dX11_sight_7 rfl ?_
    refine h_iload_n dX11_sight_8 rfl ?_
    refine h_cV1 dX11_sight_9 k2_188 oVX11_isStation rfl rfl ?_
    refine c_isStation (n := ns) hns (by omega) (fun b2 => ?_) (fun b2 => ?_)
    · refine h_ifeq (tgt := 39) dX11_sight_12 rfl (fun c => absurd c (by decide)) (fun _ => ?_)
      refine h_aload_n dX11_sight_15 rfl ?_
      refine h_iload_n dX11_sight_16 rfl ?_
      refine h_cV1 dX11_sight_17 k3_11 oVX11_isPoint rfl rfl ?_
      refine c_isPoint (n := np) hnp (by omega) (fun b3 => ?_) (fun b3 => ?_)
      · refine h_ifeq (tgt := 39) dX11_sight_20 rfl (fun c => absurd c (by decide)) (fun _ => ?_)
        refine h_iload dX11_sight_23 rfl ?_
        refine h_cS1 dX11_sight_25 k3_26 oSX11_isSlant rfl ?_
        refine c_X11_isSlant (fun b4 => ?_) (fun b4 => ?_)
        · refine h_ifeq (tgt := 39) dX11_sight_28 rfl (fun c => absurd c (by decide)) (fun _ => ?_)
          refine h_iload dX11_sight_31 rfl ?_
          refine h_cS1 dX11_sight_33 k3_29 oSX11_isWhen rfl ?_
          refine c_isWhen (fun w hv hw1 hw2 => ?_) (fun b5 => ?_)
          · obtain ⟨kn, rfl, hk1, hk5⟩ := rng_ex (by omega) (by omega) b1.1 b1.2
            obtain ⟨s, hs, rfl⟩ := b2
            obtain ⟨p, hp, rfl⟩ := b3
            obtain ⟨hu1, hu2⟩ := r999 b4
            subst hv
            refine h_ifne (tgt := 41) dX11_sight_36 rfl (fun _ => ?_) (fun c => absurd c (by decide))
            refine h_aload_n dX11_sight_41 rfl ?_
            refine h_getR dX11_sight_42 f_X11_10_9 rfl rfl ?_
            refine h_getI dX11_sight_45 f_X11_191_8 rfl hnk ?_
            refine h_bipush dX11_sight_48 cb_24 ?_
            refine h_icmplt (tgt := 56) dX11_sight_50 rfl (fun c_50 => ?_) (fun c_50 => ?_)
            · rw [nI_ltI (by omega) (by omega)] at c_50
              refine h_aload_n dX11_sight_56 rfl ?_
              refine h_getR dX11_sight_57 f_X11_10_9 rfl rfl ?_
              refine h_iload_n dX11_sight_60 rfl ?_
              refine h_iload_n dX11_sight_61 rfl ?_
              refine h_iload_n dX11_sight_62 rfl ?_
              refine h_iload dX11_sight_63 rfl ?_
              refine h_iload dX11_sight_65 rfl ?_
              refine h_cV5 dX11_sight_67 k3_32 oVX10_addSight rfl rfl ?_
              refine c_addSight hG (by omega) ?_
              refine h_ireturn dX11_sight_70 rfl ?_
              exact hO kn s p w rfl rfl rfl rfl hk1 hk5 hs hp hu1 hu2 hw1 hw2 (by omega)
            · rw [nI_ltI (by omega) (by omega)] at c_50
              refine h_bipush dX11_sight_53 cb_m2 ?_
              refine h_ireturn dX11_sight_55 rfl ?_
              exact hF (by omega)
          · refine h_ifne (tgt := 41) dX11_sight_36 rfl (fun c => absurd (by decide) c) (fun _ => ?_)
            refine h_iconst dX11_sight_39 ci_m1 ?_
            refine h_ireturn dX11_sight_40 rfl ?_
            exact hB (fun q => b5 q.2.2.2.2)
        · refine h_ifeq (tgt := 39) dX11_sight_28 rfl (fun _ => ?_) (fun c => absurd (by decide) c)
          refine h_iconst dX11_sight_39 ci_m1 ?_
          refine h_ireturn dX11_sight_40 rfl ?_
          exact hB (fun q => b4 q.2.2.2.1)
      · refine h_ifeq (tgt := 39) dX11_sight_20 rfl (fun _ => ?_) (fun c => absurd (by decide) c)
        refine h_iconst dX11_sight_39 ci_m1 ?_
        refine h_ireturn dX11_sight_40 rfl ?_
        exact hB (fun q => b3 q.2.2.1)
    · refine h_ifeq (tgt := 39) dX11_sight_12 rfl (fun _ => ?_) (fun c => absurd (by decide) c)
      refine h_iconst dX11_sight_39 ci_m1 ?_
      refine h_ireturn dX11_sight_40 rfl ?_
      exact hB (fun q => b2 q.2.1)
  · refine h_ifeq (tgt := 39) dX11_sight_4 rfl (fun _ => ?_) (fun c => absurd (by decide) c)
    refine h_iconst dX11_sight_39 ci_m1 ?_
    refine h_ireturn dX11_sight_40 rfl ?_
    exact hB (fun q => b1 q.1)
theorem r_addSight {l : Launch} {dp : Nat} {ns nl np ml nk nw : Nat} {pl fa fb sl pp pm ki fr tg wh bw : Nat → Nat} {rs sn : Nat → Int32} {fl : Nat → Bool} {qw : Nat → Nat → Nat → Nat → Bool} {I : hI} {J : hJ} {lt tx : Option Nat} {kn s p w : Nat} {u : Int32} {Q : hQ} (hG : rG I ns nl np ml nk nw pl fa fb sl pp pm ki fr tg wh bw rs sn fl qw) (hQ : Q (some (.int (if nk < 24 then nI nk else -2))) hSH (if nk < 24 then (upI (upI (upI (upI (upI (upI (upI (upI I 86 (7 * nk) (nI kn)) 86 (7 * nk + 1) (nI s)) 86 (7 * nk + 2) (nI p)) 86 (7 * nk + 3) u) 86 (7 * nk + 4) (nI (w / 100))) 86 (7 * nk + 5) (nI (w % 100))) 86 (7 * nk + 6) (nI 1)) 82 7 (nI (nk + 1))) else I) J (hRR lt tx)) : HC l mX12_addSight dp 0 0 [.ref 82, .int (nI kn), .int (nI s), .int (nI p), .int u, .int (nI (w / 100)), .int (nI (w % 100))] hSH I J (hRR lt tx) Q := by
  refine HC.of (by decide +kernel) rfl (Nat.le_of_ble_eq_true rfl) ?_
  show HV l mX12_addSight dp 0 0 0 [some (.ref 82), some (.int (nI kn)), some (.int (nI s)), some (.int (nI p)), some (.int u), some (.int (nI (w / 100))), some (.int (nI (w % 100))), none] [] hSH I J (hRR lt tx) Q
  obtain ⟨hN, hw, ⟨hnp, hml, hnk, hpt, hsi⟩, ⟨hn8, hm2, hn24, hpW, hsW⟩, hL⟩ := id hG
  obtain ⟨hns, hnl, hpl, hlg⟩ := id hN
  obtain ⟨hn6, hl12, hW, hp99, hr99⟩ := id hw
  refine h_aload_n dX12_addSight_0 rfl ?_
  refine h_getI dX12_addSight_1 f_X12_113_10 rfl hnk ?_
  refine h_bipush dX12_addSight_4 cb_24 ?_
  refine h_icmpne (tgt := 12) dX12_addSight_6 rfl (fun c_6 => ?_) (fun c_6 => ?_)
  · rw [nI_eq (by omega) (by omega)] at c_6
    refine h_bipush dX12_addSight_12 cb_7 ?_
    refine h_aload_n dX12_addSight_14 rfl ?_
    refine h_getI dX12_addSight_15 f_X12_113_10 rfl hnk ?_
    refine h_imulN dX12_addSight_18 ?_
    refine h_istore dX12_addSight_19 (Nat.le_of_ble_eq_true rfl) ?_
    refine h_aload_n dX12_addSight_21 rfl ?_
    refine h_getR dX12_addSight_22 f_X12_19_10 rfl rfl ?_
    refine h_iload dX12_addSight_25 rfl ?_
    refine h_iload_n dX12_addSight_27 rfl ?_
    refine h_iastN (j := 7 * nk) dX12_addSight_28 rfl rfl (by omega) rfl ?_
    refine h_aload_n dX12_addSight_29 rfl ?_
    refine h_getR dX12_addSight_30 f_X12_19_10 rfl rfl ?_
    refine h_iload dX12_addSight_33 rfl ?_
    refine h_iconst dX12_addSight_35 ci_1 ?_
    refine h_iaddN dX12_addSight_36 ?_
    refine h_iload_n dX12_addSight_37 rfl ?_
    refine h_iastN (j := (7 * nk) + 1) dX12_addSight_38 rfl rfl (by omega) rfl ?_
    refine h_aload_n dX12_addSight_39 rfl ?_
    refine h_getR dX12_addSight_40 f_X12_19_10 rfl rfl ?_
    refine h_iload dX12_addSight_43 rfl ?_
    refine h_iconst dX12_addSight_45 ci_2 ?_
    refine h_iaddN dX12_addSight_46 ?_
    refine h_iload_n dX12_addSight_47 rfl ?_
    refine h_iastN (j := (7 * nk) + 2) dX12_addSight_48 rfl rfl (by omega) rfl ?_
    refine h_aload_n dX12_addSight_49 rfl ?_
    refine h_getR dX12_addSight_50 f_X12_19_10 rfl rfl ?_
    refine h_iload dX12_addSight_53 rfl ?_
    refine h_iconst dX12_addSight_55 ci_3 ?_
    refine h_iaddN dX12_addSight_56 ?_
    refine h_iload dX12_addSight_57 rfl ?_
    refine h_iastN (j := (7 * nk) + 3) dX12_addSight_59 rfl rfl (by omega) rfl ?_
    refine h_aload_n dX12_addSight_60 rfl ?_
    refine h_getR dX12_addSight_61 f_X12_19_10 rfl rfl ?_
    refine h_iload dX12_addSight_64 rfl ?_
    refine h_iconst dX12_addSight_66 ci_4 ?_
    refine h_iaddN dX12_addSight_67 ?_
    refine h_iload dX12_addSight_68 rfl ?_
    refine h_iastN (j := (7 * nk) + 4) dX12_addSight_70 rfl rfl (by omega) rfl ?_
    refine h_aload_n dX12_addSight_71 rfl ?_
    refine h_getR dX12_addSight_72 f_X12_19_10 rfl rfl ?_
    refine h_iload dX12_addSight_75 rfl ?_
    refine h_iconst dX12_addSight_77 ci_5 ?_
    refine h_iaddN dX12_addSight_78 ?_
    refine h_iload dX12_addSight_79 rfl ?_
    refine h_iastN (j := (7 * nk) + 5) dX12_addSight_81 rfl rfl (by omega) rfl ?_
    refine h_aload_n dX12_addSight_82 rfl ?_
    refine h_getR dX12_addSight_83 f_X12_19_10 rfl rfl ?_
    refine h_iload dX12_addSight_86 rfl ?_
    refine h_bipush dX12_addSight_88 cb_6 ?_
    refine h_iaddN dX12_addSight_90 ?_
    refine h_iconst dX12_addSight_91 ci_1 ?_
    refine h_iastN (j := (7 * nk) + 6) dX12_addSight_92 rfl rfl (by omega) rfl ?_
    refine h_aload_n dX12_addSight_93 rfl ?_
    refine h_dup dX12_addSight_94 rfl ?_
    refine h_getI dX12_addSight_95 f_X12_113_10 rfl hnk ?_
    refine h_iconst dX12_addSight_98 ci_1 ?_
    refine h_iaddN dX12_addSight_99 ?_
    refine h_putI dX12_addSight_100 f_X12_113_10 p_X12_10_7 (fun h => by cases h) rfl ?_
    refine h_aload_n dX12_addSight_103 rfl ?_
    refine h_getI dX12_addSight_104 f_X12_113_10 rfl (show _ = nI (nk + 1) from rfl) ?_
    refine h_iconst dX12_addSight_107 ci_1 ?_
    refine h_isubN dX12_addSight_108 (by omega) ?_
    refine h_ireturn dX12_addSight_109 rfl ?_
    rw [Nat.add_sub_cancel]
    rw [if_pos (by omega), if_pos (by omega)] at hQ
    exact hQ
  · rw [nI_eq (by omega) (by omega)] at c_6
    refine h_bipush dX12_addSight_9 cb_m2 ?_
    refine h_ireturn dX12_addSight_11 rfl ?_
    rw [if_neg (by omega), if_neg (by omega)] at hQ
    exact hQ
theorem r_sight {l : Launch} {dp : Nat} {ns nl np ml nk nw : Nat} {pl fa fb sl pp pm ki fr tg wh bw : Nat → Nat} {rs sn : Nat → Int32} {fl : Nat → Bool} {qw : Nat → Nat → Nat → Nat → Bool} {I : hI} {J : hJ} {lt tx : Option Nat} {x y z u v : Int32} {Q : hQ} (hG : rG I ns nl np ml nk nw pl fa fb sl pp pm ki fr tg wh bw rs sn fl qw) (hB : ¬ sightOk ns np x y z u v → Q (some (.int (-1))) hSH I J (hRR lt tx)) (hF : nk = 24 → Q (some (.int (-2))) hSH I J (hRR lt tx)) (hO : ∀ kn s p w, x = nI kn → y = nI s → z = nI p → v = nI w → 1 ≤ kn → kn ≤ 5 → s < ns → p < np → -99 ≤ u.toInt → u.toInt ≤ 999 → w / 100 ≤ 23 → w % 100 ≤ 40 → nk < 24 → Q (some (.int (nI nk))) hSH (upI (upI (upI (upI (upI (upI (upI (upI I 86 (7 * nk) (nI kn)) 86 (7 * nk + 1) (nI s)) 86 (7 * nk + 2) (nI p)) 86 (7 * nk + 3) u) 86 (7 * nk + 4) (nI (w / 100))) 86 (7 * nk + 5) (nI (w % 100))) 86 (7 * nk + 6) (nI 1)) 82 7 (nI (nk + 1))) J (hRR lt tx)) : HC l mX12_sight (dp + 2) 0 0 [.ref 82, .int x, .int y, .int z, .int u, .int v] hSH I J (hRR lt tx) Q := by
  refine HC.of (by decide +kernel) rfl (Nat.le_of_ble_eq_true rfl) ?_
  show HV l mX12_sight (dp + 2) 0 0 0 [some (.ref 82), some (.int x), some (.int y), some (.int z), some (.int u), some (.int v)] [] hSH I J (hRR lt tx) Q
  obtain ⟨hN, hw, ⟨hnp, hml, hnk, hpt, hsi⟩, ⟨hn8, hm2, hn24, hpW, hsW⟩, hL⟩ := id hG
  obtain ⟨hns, hnl, hpl, hlg⟩ := id hN
  obtain ⟨hn6, hl12, hW, hp99, hr99⟩ := id hw
  refine h_iload_n dX12_sight_0 rfl ?_
  refine h_iconst dX12_sight_1 ci_1 ?_
  refine h_iconst dX12_sight_2 ci_5 ?_
  refine h_cS3 dX12_sight_3 k5_172 oSX12_in rfl ?_
  refine c_X12_in (fun b1 => ?_) (fun b1 => ?_)
  · refine h_ifeq (tgt := 41) dX12_sight_6 rfl (fun c => absurd c (by decide)) (fun _ => ?_)
    refine h_aload_n dX12_sight_9 rfl ?_
    refine h_iload_n dX12_sight_10 rfl ?_
    refine h_cV1 dX12_sight_11 k5_179 oVX12_isStation rfl rfl ?_
    refine r_isStation (n := ns) hns (by omega) (fun b2 => ?_) (fun b2 => ?_)
    · refine h_ifeq (tgt := 41) dX12_sight_14 rfl (fun c => absurd c (by decide)) (fun _ => ?_)
      refine h_aload_n dX12_sight_17 rfl ?_
      refine h_iload_n dX12_sight_18 rfl ?_
      refine h_cV1 dX12_sight_19 k5_238 oVX12_isPoint rfl rfl ?_
      refine r_isPoint (n := np) hnp (by omega) (fun b3 => ?_) (fun b3 => ?_)
      · refine h_ifeq (tgt := 41) dX12_sight_22 rfl (fun c => absurd c (by decide)) (fun _ => ?_)
        refine h_iload dX12_sight_25 rfl ?_
        refine h_cS1 dX12_sight_27 k6_10 oSX12_isSlant rfl ?_
        refine c_X12_isSlant (fun b4 => ?_) (fun b4 => ?_)
        · refine h_ifeq (tgt := 41) dX12_sight_30 rfl (fun c => absurd c (by decide)) (fun _ => ?_)
          refine h_iload dX12_sight_33 rfl ?_
          refine h_cS1 dX12_sight_35 k6_13 oSX12_isWhen rfl ?_
          refine r_isWhen (fun w hv hw1 hw2 => ?_) (fun b5 => ?_)
          · obtain ⟨kn, rfl, hk1, hk5⟩ := rng_ex (by omega) (by omega) b1.1 b1.2
            obtain ⟨s, hs, rfl⟩ := b2
            obtain ⟨p, hp, rfl⟩ := b3
            obtain ⟨hu1, hu2⟩ := r999 b4
            subst hv
            refine h_ifne (tgt := 43) dX12_sight_38 rfl (fun _ => ?_) (fun c => absurd c (by decide))
            refine h_aload_n dX12_sight_43 rfl ?_
            refine h_iload_n dX12_sight_44 rfl ?_
            refine h_iload_n dX12_sight_45 rfl ?_
            refine h_iload_n dX12_sight_46 rfl ?_
            refine h_iload dX12_sight_47 rfl ?_
            refine h_iload dX12_sight_49 rfl ?_
            refine h_bipush dX12_sight_51 cb_100 ?_
            refine h_idivN dX12_sight_53 (by omega) (by omega) (by omega) ?_
            refine h_iload dX12_sight_54 rfl ?_
            refine h_bipush dX12_sight_56 cb_100 ?_
            refine h_iremN dX12_sight_58 (by omega) (by omega) (by omega) ?_
            refine h_cV6 dX12_sight_59 k6_16 oVX12_addSight rfl rfl ?_
            refine r_addSight hG ?_
            refine h_ireturn dX12_sight_62 rfl ?_
            by_cases h24 : nk < 24
            · rw [if_pos h24, if_pos h24]
              exact hO kn s p w rfl rfl rfl rfl hk1 hk5 hs hp hu1 hu2 hw1 hw2 h24
            · rw [if_neg h24, if_neg h24]
              exact hF (by omega)
          · refine h_ifne (tgt := 43) dX12_sight_38 rfl (fun c => absurd (by decide) c) (fun _ => ?_)
            refine h_iconst dX12_sight_41 ci_m1 ?_
            refine h_ireturn dX12_sight_42 rfl ?_
            exact hB (fun q => b5 q.2.2.2.2)
        · refine h_ifeq (tgt := 41) dX12_sight_30 rfl (fun _ => ?_) (fun c => absurd (by decide) c)
          refine h_iconst dX12_sight_41 ci_m1 ?_
          refine h_ireturn dX12_sight_42 rfl ?_
          exact hB (fun q => b4 q.2.2.2.1)
      · refine h_ifeq (tgt := 41) dX12_sight_22 rfl (fun _ => ?_) (fun c => absurd (by decide) c)
        refine h_iconst dX12_sight_41 ci_m1 ?_
        refine h_ireturn dX12_sight_42 rfl ?_
        exact hB (fun q => b3 q.2.2.1)
    · refine h_ifeq (tgt := 41) dX12_sight_14 rfl (fun _ => ?_) (fun c => absurd (by decide) c)
      refine h_iconst dX12_sight_41 ci_m1 ?_
      refine h_ireturn dX12_sight_42 rfl ?_
      exact hB (fun q => b2 q.2.1)
  · refine h_ifeq (tgt := 41) dX12_sight_6 rfl (fun _ => ?_) (fun c => absurd (by decide) c)
    refine h_iconst dX12_sight_41 ci_m1 ?_
    refine h_ireturn dX12_sight_42 rfl ?_
    exact hB (fun q => b1 q.1)
theorem c_falls0 {l : Launch} {dp : Nat} {ns nl np ml nk nw : Nat} {pl fa fb sl pp pm ki fr tg wh bw : Nat → Nat} {rs sn : Nat → Int32} {fl : Nat → Bool} {qw : Nat → Nat → Nat → Nat → Bool} {I : hI} {J : hJ} {lt tx : Option Nat} {x : Int32} {Q : hQ} (hG : cG I ns nl np ml nk nw pl fa fb sl pp pm ki fr tg wh bw rs sn fl qw) (hB : ¬ isIx x nk → Q (some (.int (-1))) hSH I J (hRR lt tx)) (hO : ∀ k, x = nI k → k < nk → (fl k = true → Q (some (.int (nI 0))) hSH I J (hRR lt tx)) ∧ (fl k = false → Q (some (.int (nI 1))) hSH (upI I 1 12 (I 1 12 ^^^ (nI 1 <<< (nI k &&& 31)))) J (hRR lt tx))) : HC l mX11_falls (dp + 2) 0 0 [.ref 0, .int x, .int (nI 0)] hSH I J (hRR lt tx) Q := by
  refine HC.of (by decide +kernel) rfl (Nat.le_of_ble_eq_true rfl) ?_
  show HV l mX11_falls (dp + 2) 0 0 0 [some (.ref 0), some (.int x), some (.int (nI 0))] [] hSH I J (hRR lt tx) Q
  obtain ⟨⟨hN, hdo, hla, hlv⟩, hw, ⟨hnp, hml, hnk, hpt, hsi, hbt⟩, ⟨hn8, hm2, hn24, hpW, hsW⟩, hL⟩ := id hG
  obtain ⟨hns, hnl, hpl, hlg⟩ := id hN
  obtain ⟨hn6, hl12, hW, hp99, hr99⟩ := id hw
  refine h_aload_n dX11_falls_0 rfl ?_
  refine h_iload_n dX11_falls_1 rfl ?_
  refine h_cV1 dX11_falls_2 k3_40 oVX11_isSight rfl rfl ?_
  refine c_isSight (n := nk) hnk (by omega) (fun b1 => ?_) (fun b1 => ?_)
  · obtain ⟨k, hk, rfl⟩ := b1
    refine h_ifne (tgt := 10) dX11_falls_5 rfl (fun _ => ?_) (fun c => absurd c (by decide))
    refine h_aload_n dX11_falls_10 rfl ?_
    refine h_getR dX11_falls_11 f_X11_10_9 rfl rfl ?_
    refine h_iload_n dX11_falls_14 rfl ?_
    refine h_cV1 dX11_falls_15 k3_73 oVX10_isFalse rfl rfl ?_
    refine c_isFalse hG hk (fun b2 => ?_) (fun b2 => ?_)
    · refine h_iload_n dX11_falls_18 rfl ?_
      refine h_icmpne (tgt := 24) dX11_falls_19 rfl (fun _ => ?_) (fun c => absurd c (by decide))
      refine h_aload_n dX11_falls_24 rfl ?_
      refine h_getR dX11_falls_25 f_X11_10_9 rfl rfl ?_
      refine h_dup dX11_falls_28 rfl ?_
      refine h_getI dX11_falls_29 f_X11_229_8 rfl (show _ = I 1 12 from rfl) ?_
      refine h_iconst dX11_falls_32 ci_1 ?_
      refine h_iload_n dX11_falls_33 rfl ?_
      refine h_ishl dX11_falls_34 ?_
      refine h_ixor dX11_falls_35 ?_
      refine h_putI dX11_falls_36 f_X11_229_8 p_X11_8_12 (fun h => by cases h) rfl ?_
      refine h_iconst dX11_falls_39 ci_1 ?_
      refine h_ireturn dX11_falls_40 rfl ?_
      exact (hO k rfl hk).2 b2
    · refine h_iload_n dX11_falls_18 rfl ?_
      refine h_icmpne (tgt := 24) dX11_falls_19 rfl (fun c => absurd (by decide) c) (fun _ => ?_)
      refine h_iconst dX11_falls_22 ci_0 ?_
      refine h_ireturn dX11_falls_23 rfl ?_
      exact (hO k rfl hk).1 (by cases q : fl k with | true => rfl | false => exact absurd q b2)
  · refine h_ifne (tgt := 10) dX11_falls_5 rfl (fun c => absurd (by decide) c) (fun _ => ?_)
    refine h_iconst dX11_falls_8 ci_m1 ?_
    refine h_ireturn dX11_falls_9 rfl ?_
    exact hB b1
theorem r_falls0 {l : Launch} {dp : Nat} {ns nl np ml nk nw : Nat} {pl fa fb sl pp pm ki fr tg wh bw : Nat → Nat} {rs sn : Nat → Int32} {fl : Nat → Bool} {qw : Nat → Nat → Nat → Nat → Bool} {I : hI} {J : hJ} {lt tx : Option Nat} {x : Int32} {Q : hQ} (hG : rG I ns nl np ml nk nw pl fa fb sl pp pm ki fr tg wh bw rs sn fl qw) (hB : ¬ isIx x nk → Q (some (.int (-1))) hSH I J (hRR lt tx)) (hO : ∀ k, x = nI k → k < nk → (fl k = true → Q (some (.int (nI 0))) hSH (upI I 86 (7 * k + 6) (nI 1)) J (hRR lt tx)) ∧ (fl k = false → Q (some (.int (nI 1))) hSH (upI I 86 (7 * k + 6) (nI 1)) J (hRR lt tx))) : HC l mX12_falls (dp + 2) 0 0 [.ref 82, .int x, .int (nI 0)] hSH I J (hRR lt tx) Q := by
  refine HC.of (by decide +kernel) rfl (Nat.le_of_ble_eq_true rfl) ?_
  show HV l mX12_falls (dp + 2) 0 0 0 [some (.ref 82), some (.int x), some (.int (nI 0)), none, none] [] hSH I J (hRR lt tx) Q
  obtain ⟨hN, hw, ⟨hnp, hml, hnk, hpt, hsi⟩, ⟨hn8, hm2, hn24, hpW, hsW⟩, hL⟩ := id hG
  obtain ⟨hns, hnl, hpl, hlg⟩ := id hN
  obtain ⟨hn6, hl12, hW, hp99, hr99⟩ := id hw
  refine h_aload_n dX12_falls_0 rfl ?_
  refine h_iload_n dX12_falls_1 rfl ?_
  refine h_cV1 dX12_falls_2 k6_24 oVX12_isSight rfl rfl ?_
  refine r_isSight (n := nk) hnk (by omega) (fun b1 => ?_) (fun b1 => ?_)
  · obtain ⟨k, hk, rfl⟩ := b1
    refine h_ifne (tgt := 10) dX12_falls_5 rfl (fun _ => ?_) (fun c => absurd c (by decide))
    refine h_iload_n dX12_falls_10 rfl ?_
    refine h_ifeq (tgt := 18) dX12_falls_11 rfl (fun _ => ?_) (fun c => absurd (by decide) c)
    refine h_iconst dX12_falls_18 ci_1 ?_
    refine h_istore_n dX12_falls_19 (Nat.le_of_ble_eq_true rfl) ?_
    refine h_aload_n dX12_falls_20 rfl ?_
    refine h_getR dX12_falls_21 f_X12_19_10 rfl rfl ?_
    refine h_bipush dX12_falls_24 cb_7 ?_
    refine h_iload_n dX12_falls_26 rfl ?_
    refine h_imulN dX12_falls_27 ?_
    refine h_bipush dX12_falls_28 cb_6 ?_
    refine h_iaddN dX12_falls_30 ?_
    refine h_ialdN (j := (7 * k) + 6) dX12_falls_31 rfl rfl (by omega) rfl (hsi k (by omega)).2.2.2.2.2.2 ?_
    refine h_iload_n dX12_falls_32 rfl ?_
    refine h_icmpne (tgt := 40) dX12_falls_33 rfl (fun c_33 => ?_) (fun c_33 => ?_)
    · refine h_iconst dX12_falls_40 ci_1 ?_
      refine h_istore dX12_falls_41 (Nat.le_of_ble_eq_true rfl) ?_
      refine h_aload_n dX12_falls_43 rfl ?_
      refine h_getR dX12_falls_44 f_X12_19_10 rfl rfl ?_
      refine h_bipush dX12_falls_47 cb_7 ?_
      refine h_iload_n dX12_falls_49 rfl ?_
      refine h_imulN dX12_falls_50 ?_
      refine h_bipush dX12_falls_51 cb_6 ?_
      refine h_iaddN dX12_falls_53 ?_
      refine h_iload_n dX12_falls_54 rfl ?_
      refine h_iastN (j := (7 * k) + 6) dX12_falls_55 rfl rfl (by omega) rfl ?_
      refine h_iload dX12_falls_56 rfl ?_
      refine h_ireturn dX12_falls_58 rfl ?_
      exact (hO k rfl hk).2 (by cases q : fl k <;> rw [q] at c_33 <;> first | rfl | exact absurd c_33 (by decide) | exact absurd (by decide) c_33)
    · refine h_iconst dX12_falls_36 ci_0 ?_
      refine h_goto (tgt := 41) dX12_falls_37 rfl ?_
      refine h_istore dX12_falls_41 (Nat.le_of_ble_eq_true rfl) ?_
      refine h_aload_n dX12_falls_43 rfl ?_
      refine h_getR dX12_falls_44 f_X12_19_10 rfl rfl ?_
      refine h_bipush dX12_falls_47 cb_7 ?_
      refine h_iload_n dX12_falls_49 rfl ?_
      refine h_imulN dX12_falls_50 ?_
      refine h_bipush dX12_falls_51 cb_6 ?_
      refine h_iaddN dX12_falls_53 ?_
      refine h_iload_n dX12_falls_54 rfl ?_
      refine h_iastN (j := (7 * k) + 6) dX12_falls_55 rfl rfl (by omega) rfl ?_
      refine h_iload dX12_falls_56 rfl ?_
      refine h_ireturn dX12_falls_58 rfl ?_
      exact (hO k rfl hk).1 (by cases q : fl k <;> rw [q] at c_33 <;> first | rfl | exact absurd c_33 (by decide) | exact absurd (by decide) c_33)
  · refine h_ifne (tgt := 10) dX12_falls_5 rfl (fun c => absurd (by decide) c) (fun _ => ?_)
    refine h_iconst dX12_falls_8 ci_m1 ?_
    refine h_ireturn dX12_falls_9 rfl ?_
    exact hB b1
theorem c_falls1 {l : Launch} {dp : Nat} {ns nl np ml nk nw : Nat} {pl fa fb sl pp pm ki fr tg wh bw : Nat → Nat} {rs sn : Nat → Int32} {fl : Nat → Bool} {qw : Nat → Nat → Nat → Nat → Bool} {I : hI} {J : hJ} {lt tx : Option Nat} {x : Int32} {Q : hQ} (hG : cG I ns nl np ml nk nw pl fa fb sl pp pm ki fr tg wh bw rs sn fl qw) (hB : ¬ isIx x nk → Q (some (.int (-1))) hSH I J (hRR lt tx)) (hO : ∀ k, x = nI k → k < nk → (fl k = false → Q (some (.int (nI 0))) hSH I J (hRR lt tx)) ∧ (fl k = true → Q (some (.int (nI 1))) hSH (upI I 1 12 (I 1 12 ^^^ (nI 1 <<< (nI k &&& 31)))) J (hRR lt tx))) : HC l mX11_falls (dp + 2) 0 0 [.ref 0, .int x, .int (nI 1)] hSH I J (hRR lt tx) Q := by
  refine HC.of (by decide +kernel) rfl (Nat.le_of_ble_eq_true rfl) ?_
  show HV l mX11_falls (dp + 2) 0 0 0 [some (.ref 0), some (.int x), some (.int (nI 1))] [] hSH I J (hRR lt tx) Q
  obtain ⟨⟨hN, hdo, hla, hlv⟩, hw, ⟨hnp, hml, hnk, hpt, hsi, hbt⟩, ⟨hn8, hm2, hn24, hpW, hsW⟩, hL⟩ := id hG
  obtain ⟨hns, hnl, hpl, hlg⟩ := id hN
  obtain ⟨hn6, hl12, hW, hp99, hr99⟩ := id hw
  refine h_aload_n dX11_falls_0 rfl ?_
  refine h_iload_n dX11_falls_1 rfl ?_
  refine h_cV1 dX11_falls_2 k3_40 oVX11_isSight rfl rfl ?_
  refine c_isSight (n := nk) hnk (by omega) (fun b1 => ?_) (fun b1 => ?_)
  · obtain ⟨k, hk, rfl⟩ := b1
    refine h_ifne (tgt := 10) dX11_falls_5 rfl (fun _ => ?_) (fun c => absurd c (by decide))
    refine h_aload_n dX11_falls_10 rfl ?_
    refine h_getR dX11_falls_11 f_X11_10_9 rfl rfl ?_
    refine h_iload_n dX11_falls_14 rfl ?_
    refine h_cV1 dX11_falls_15 k3_73 oVX10_isFalse rfl rfl ?_
    refine c_isFalse hG hk (fun b2 => ?_) (fun b2 => ?_)
    · refine h_iload_n dX11_falls_18 rfl ?_
      refine h_icmpne (tgt := 24) dX11_falls_19 rfl (fun c => absurd (by decide) c) (fun _ => ?_)
      refine h_iconst dX11_falls_22 ci_0 ?_
      refine h_ireturn dX11_falls_23 rfl ?_
      exact (hO k rfl hk).1 b2
    · refine h_iload_n dX11_falls_18 rfl ?_
      refine h_icmpne (tgt := 24) dX11_falls_19 rfl (fun _ => ?_) (fun c => absurd c (by decide))
      refine h_aload_n dX11_falls_24 rfl ?_
      refine h_getR dX11_falls_25 f_X11_10_9 rfl rfl ?_
      refine h_dup dX11_falls_28 rfl ?_
      refine h_getI dX11_falls_29 f_X11_229_8 rfl (show _ = I 1 12 from rfl) ?_
      refine h_iconst dX11_falls_32 ci_1 ?_
      refine h_iload_n dX11_falls_33 rfl ?_
      refine h_ishl dX11_falls_34 ?_
      refine h_ixor dX11_falls_35 ?_
      refine h_putI dX11_falls_36 f_X11_229_8 p_X11_8_12 (fun h => by cases h) rfl ?_
      refine h_iconst dX11_falls_39 ci_1 ?_
      refine h_ireturn dX11_falls_40 rfl ?_
      exact (hO k rfl hk).2 (by cases q : fl k with | true => rfl | false => exact absurd q b2)
  · refine h_ifne (tgt := 10) dX11_falls_5 rfl (fun c => absurd (by decide) c) (fun _ => ?_)
    refine h_iconst dX11_falls_8 ci_m1 ?_
    refine h_ireturn dX11_falls_9 rfl ?_
    exact hB b1
theorem r_falls1 {l : Launch} {dp : Nat} {ns nl np ml nk nw : Nat} {pl fa fb sl pp pm ki fr tg wh bw : Nat → Nat} {rs sn : Nat → Int32} {fl : Nat → Bool} {qw : Nat → Nat → Nat → Nat → Bool} {I : hI} {J : hJ} {lt tx : Option Nat} {x : Int32} {Q : hQ} (hG : rG I ns nl np ml nk nw pl fa fb sl pp pm ki fr tg wh bw rs sn fl qw) (hB : ¬ isIx x nk → Q (some (.int (-1))) hSH I J (hRR lt tx)) (hO : ∀ k, x = nI k → k < nk → (fl k = false → Q (some (.int (nI 0))) hSH (upI I 86 (7 * k + 6) (nI 0)) J (hRR lt tx)) ∧ (fl k = true → Q (some (.int (nI 1))) hSH (upI I 86 (7 * k + 6) (nI 0)) J (hRR lt tx))) : HC l mX12_falls (dp + 2) 0 0 [.ref 82, .int x, .int (nI 1)] hSH I J (hRR lt tx) Q := by
  refine HC.of (by decide +kernel) rfl (Nat.le_of_ble_eq_true rfl) ?_
  show HV l mX12_falls (dp + 2) 0 0 0 [some (.ref 82), some (.int x), some (.int (nI 1)), none, none] [] hSH I J (hRR lt tx) Q
  obtain ⟨hN, hw, ⟨hnp, hml, hnk, hpt, hsi⟩, ⟨hn8, hm2, hn24, hpW, hsW⟩, hL⟩ := id hG
  obtain ⟨hns, hnl, hpl, hlg⟩ := id hN
  obtain ⟨hn6, hl12, hW, hp99, hr99⟩ := id hw
  refine h_aload_n dX12_falls_0 rfl ?_
  refine h_iload_n dX12_falls_1 rfl ?_
  refine h_cV1 dX12_falls_2 k6_24 oVX12_isSight rfl rfl ?_
  refine r_isSight (n := nk) hnk (by omega) (fun b1 => ?_) (fun b1 => ?_)
  · obtain ⟨k, hk, rfl⟩ := b1
    refine h_ifne (tgt := 10) dX12_falls_5 rfl (fun _ => ?_) (fun c => absurd c (by decide))
    refine h_iload_n dX12_falls_10 rfl ?_
    refine h_ifeq (tgt := 18) dX12_falls_11 rfl (fun c => absurd c (by decide)) (fun _ => ?_)
    refine h_iconst dX12_falls_14 ci_0 ?_
    refine h_goto (tgt := 19) dX12_falls_15 rfl ?_
    refine h_istore_n dX12_falls_19 (Nat.le_of_ble_eq_true rfl) ?_
    refine h_aload_n dX12_falls_20 rfl ?_
    refine h_getR dX12_falls_21 f_X12_19_10 rfl rfl ?_
    refine h_bipush dX12_falls_24 cb_7 ?_
    refine h_iload_n dX12_falls_26 rfl ?_
    refine h_imulN dX12_falls_27 ?_
    refine h_bipush dX12_falls_28 cb_6 ?_
    refine h_iaddN dX12_falls_30 ?_
    refine h_ialdN (j := (7 * k) + 6) dX12_falls_31 rfl rfl (by omega) rfl (hsi k (by omega)).2.2.2.2.2.2 ?_
    refine h_iload_n dX12_falls_32 rfl ?_
    refine h_icmpne (tgt := 40) dX12_falls_33 rfl (fun c_33 => ?_) (fun c_33 => ?_)
    · refine h_iconst dX12_falls_40 ci_1 ?_
      refine h_istore dX12_falls_41 (Nat.le_of_ble_eq_true rfl) ?_
      refine h_aload_n dX12_falls_43 rfl ?_
      refine h_getR dX12_falls_44 f_X12_19_10 rfl rfl ?_
      refine h_bipush dX12_falls_47 cb_7 ?_
      refine h_iload_n dX12_falls_49 rfl ?_
      refine h_imulN dX12_falls_50 ?_
      refine h_bipush dX12_falls_51 cb_6 ?_
      refine h_iaddN dX12_falls_53 ?_
      refine h_iload_n dX12_falls_54 rfl ?_
      refine h_iastN (j := (7 * k) + 6) dX12_falls_55 rfl rfl (by omega) rfl ?_
      refine h_iload dX12_falls_56 rfl ?_
      refine h_ireturn dX12_falls_58 rfl ?_
      exact (hO k rfl hk).2 (by cases q : fl k <;> rw [q] at c_33 <;> first | rfl | exact absurd c_33 (by decide) | exact absurd (by decide) c_33)
    · refine h_iconst dX12_falls_36 ci_0 ?_
      refine h_goto (tgt := 41) dX12_falls_37 rfl ?_
      refine h_istore dX12_falls_41 (Nat.le_of_ble_eq_true rfl) ?_
      refine h_aload_n dX12_falls_43 rfl ?_
      refine h_getR dX12_falls_44 f_X12_19_10 rfl rfl ?_
      refine h_bipush dX12_falls_47 cb_7 ?_
      refine h_iload_n dX12_falls_49 rfl ?_
      refine h_imulN dX12_falls_50 ?_
      refine h_bipush dX12_falls_51 cb_6 ?_
      refine h_iaddN dX12_falls_53 ?_
      refine h_iload_n dX12_falls_54 rfl ?_
      refine h_iastN (j := (7 * k) + 6) dX12_falls_55 rfl rfl (by omega) rfl ?_
      refine h_iload dX12_falls_56 rfl ?_
      refine h_ireturn dX12_falls_58 rfl ?_
      exact (hO k rfl hk).1 (by cases q : fl k <;> rw [q] at c_33 <;> first | rfl | exact absurd c_33 (by decide) | exact absurd (by decide) c_33)
  · refine h_ifne (tgt := 10) dX12_falls_5 rfl (fun c => absurd (by decide) c) (fun _ => ?_)
    refine h_iconst dX12_falls_8 ci_m1 ?_
    refine h_ireturn dX12_falls_9 rfl ?_
    exact hB b1
