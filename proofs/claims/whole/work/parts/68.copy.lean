theorem c_bookB {l : Launch} {dp : Nat} {ns nl np ml nk nw : Nat} {pl fa fb sl pp pm ki fr tg wh bw : Nat → Nat} {rs sn : Nat → Int32} {fl : Nat → Bool} {qw : Nat → Nat → Nat → Nat → Bool} {I : hI} {J : hJ} {lt tx : Option Nat} {x y z w : Int32} {Q : hQ} (hG : cG I ns nl np ml nk nw pl fa fb sl pp pm ki fr tg wh bw rs sn fl qw) (hv : ¬ (isIx x ns ∧ sh4 y ∧ nI 0 ≤ w ∧ w ≤ nI 8)) (hQ : Q (some (.int (-1))) hSH I J (hRR lt tx)) : HC l mX11_book (dp + 2) 0 0 [.ref 0, .int x, .int y, .int z, .int w] hSH I J (hRR lt tx) Q := by
  refine HC.of (by decide +kernel) rfl (Nat.le_of_ble_eq_true rfl) ?_
  show HV l mX11_book (dp + 2) 0 0 0 [some (.ref 0), some (.int x), some (.int y), some (.int z), some (.int w), none, none, none, none] [] hSH I J (hRR lt tx) Q
  obtain ⟨⟨hN, hdo, hla, hlv⟩, hw, ⟨hnp, hml, hnk, hpt, hsi, hbt⟩, ⟨hn8, hm2, hn24, hpW, hsW⟩, hL⟩ := id hG
  obtain ⟨hns, hnl, hpl, hlg⟩ := id hN
  obtain ⟨hn6, hl12, hW, hp99, hr99⟩ := id hw
  refine h_aload_n dX11_book_0 rfl ?_
  refine h_iload_n dX11_book_1 rfl ?_
  refine h_cV1 dX11_book_2 k2_188 oVX11_isStation rfl rfl ?_
  refine c_isStation (n := ns) hns (by omega) (fun b1 => ?_) (fun b1 => ?_)
  · refine h_ifeq (tgt := 26) dX11_book_5 rfl (fun c => absurd c (by decide)) (fun _ => ?_)
    refine h_iload_n dX11_book_8 rfl ?_
    refine h_cS1 dX11_book_9 k4_46 oSX11_isSheet rfl ?_
    refine c_X11_isSheet (fun b2 => ?_) (fun b2 => ?_)
    · refine h_ifeq (tgt := 26) dX11_book_12 rfl (fun c => absurd c (by decide)) (fun _ => ?_)
      refine h_iload dX11_book_15 rfl ?_
      refine h_iconst dX11_book_17 ci_0 ?_
      refine h_bipush dX11_book_18 cb_8 ?_
      refine h_cS3 dX11_book_20 k2_154 oSX11_within rfl ?_
      refine c_X11_within (fun b3 => ?_) (fun b3 => ?_)
      · exact absurd ⟨b1, b2, b3⟩ hv
      · refine h_ifne (tgt := 28) dX11_book_23 rfl (fun c => absurd (by decide) c) (fun _ => ?_)
        refine h_iconst dX11_book_26 ci_m1 ?_
        refine h_ireturn dX11_book_27 rfl ?_
        exact hQ
    · refine h_ifeq (tgt := 26) dX11_book_12 rfl (fun _ => ?_) (fun c => absurd (by decide) c)
      refine h_iconst dX11_book_26 ci_m1 ?_
      refine h_ireturn dX11_book_27 rfl ?_
      exact hQ
  · refine h_ifeq (tgt := 26) dX11_book_5 rfl (fun _ => ?_) (fun c => absurd (by decide) c)
    refine h_iconst dX11_book_26 ci_m1 ?_
    refine h_ireturn dX11_book_27 rfl ?_
    exact hQ
theorem c_bookR {l : Launch} {dp : Nat} {ns nl np ml nk nw : Nat} {pl fa fb sl pp pm ki fr tg wh bw : Nat → Nat} {rs sn : Nat → Int32} {fl : Nat → Bool} {qw : Nat → Nat → Nat → Nat → Bool} {I : hI} {J : hJ} {lt tx : Option Nat} {so : Nat → Int32} {si : Nat → Nat} {it : Nat → Nat → Int64} {s t : Nat} {z w : Int32} {Q : hQ} (hG : cG I ns nl np ml nk nw pl fa fb sl pp pm ki fr tg wh bw rs sn fl qw) (hS : cSh I J so si it) (hs : s < ns) (ht : t < 4) (hw9 : nI 0 ≤ w ∧ w ≤ nI 8) (hv : ¬ rfs (so t) (nI 1) = 0) (hQ : Q (some (.int (rfs (so t) (nI 1)))) hSH I J (hRR lt tx)) : HC l mX11_book (dp + 2) 0 0 [.ref 0, .int (nI s), .int (nI t), .int z, .int w] hSH I J (hRR lt tx) Q := by
  refine HC.of (by decide +kernel) rfl (Nat.le_of_ble_eq_true rfl) ?_
  show HV l mX11_book (dp + 2) 0 0 0 [some (.ref 0), some (.int (nI s)), some (.int (nI t)), some (.int z), some (.int w), none, none, none, none] [] hSH I J (hRR lt tx) Q
  obtain ⟨⟨hN, hdo, hla, hlv⟩, hw, ⟨hnp, hml, hnk, hpt, hsi, hbt⟩, ⟨hn8, hm2, hn24, hpW, hsW⟩, hL⟩ := id hG
  obtain ⟨hns, hnl, hpl, hlg⟩ := id hN
  obtain ⟨hn6, hl12, hW, hp99, hr99⟩ := id hw
  refine h_aload_n dX11_book_0 rfl ?_
  refine h_iload_n dX11_book_1 rfl ?_
  refine h_cV1 dX11_book_2 k2_188 oVX11_isStation rfl rfl ?_
  refine c_isStation (n := ns) hns (by omega) (fun b1 => ?_) (fun b1 => ?_)
  · refine h_ifeq (tgt := 26) dX11_book_5 rfl (fun c => absurd c (by decide)) (fun _ => ?_)
    refine h_iload_n dX11_book_8 rfl ?_
    refine h_cS1 dX11_book_9 k4_46 oSX11_isSheet rfl ?_
    refine c_X11_isSheet (fun b2 => ?_) (fun b2 => ?_)
    · refine h_ifeq (tgt := 26) dX11_book_12 rfl (fun c => absurd c (by decide)) (fun _ => ?_)
      refine h_iload dX11_book_15 rfl ?_
      refine h_iconst dX11_book_17 ci_0 ?_
      refine h_bipush dX11_book_18 cb_8 ?_
      refine h_cS3 dX11_book_20 k2_154 oSX11_within rfl ?_
      refine c_X11_within (fun b3 => ?_) (fun b3 => ?_)
      · refine h_ifne (tgt := 28) dX11_book_23 rfl (fun _ => ?_) (fun c => absurd c (by decide))
        refine h_aload_n dX11_book_28 rfl ?_
        refine h_iload_n dX11_book_29 rfl ?_
        refine h_iconst dX11_book_30 ci_1 ?_
        refine h_cV2 dX11_book_31 k4_60 oVX11_refusalOfRow rfl rfl ?_
        refine c_refusal hS ht ?_
        refine h_istore dX11_book_34 (Nat.le_of_ble_eq_true rfl) ?_
        refine h_iload dX11_book_36 rfl ?_
        refine h_ifeq (tgt := 44) dX11_book_38 rfl (fun c_38 => ?_) (fun c_38 => ?_)
        · exact absurd c_38 hv
        · refine h_iload dX11_book_41 rfl ?_
          refine h_ireturn dX11_book_43 rfl ?_
          exact hQ
      · exact absurd hw9 b3
    · exact absurd ⟨by rw [nI_leI (by omega) (by omega)]; omega, by rw [nI_leI (by omega) (by omega)]; omega⟩ b2
  · exact absurd ⟨s, hs, rfl⟩ b1
theorem c_bookM {l : Launch} {dp : Nat} {ns nl np ml nk nw : Nat} {pl fa fb sl pp pm ki fr tg wh bw : Nat → Nat} {rs sn : Nat → Int32} {fl : Nat → Bool} {qw : Nat → Nat → Nat → Nat → Bool} {I : hI} {J : hJ} {lt tx : Option Nat} {so : Nat → Int32} {si : Nat → Nat} {it : Nat → Nat → Int64} {s t n : Nat} {z : Int32} {Q : hQ} (hG : cG I ns nl np ml nk nw pl fa fb sl pp pm ki fr tg wh bw rs sn fl qw) (hS : cSh I J so si it) (hs : s < ns) (ht : t < 4) (hn : n ≤ 8) (hso : so t = nI 1) (hz : z < 0) (hQ : Q (some (.int (if n = 0 then nI 0 else -12))) hSH I J (hRR lt tx)) : HC l mX11_book (dp + 2) 0 0 [.ref 0, .int (nI s), .int (nI t), .int z, .int (nI n)] hSH I J (hRR lt tx) Q := by
  refine HC.of (by decide +kernel) rfl (Nat.le_of_ble_eq_true rfl) ?_
  show HV l mX11_book (dp + 2) 0 0 0 [some (.ref 0), some (.int (nI s)), some (.int (nI t)), some (.int z), some (.int (nI n)), none, none, none, none] [] hSH I J (hRR lt tx) Q
  obtain ⟨⟨hN, hdo, hla, hlv⟩, hw, ⟨hnp, hml, hnk, hpt, hsi, hbt⟩, ⟨hn8, hm2, hn24, hpW, hsW⟩, hL⟩ := id hG
  obtain ⟨hns, hnl, hpl, hlg⟩ := id hN
  obtain ⟨hn6, hl12, hW, hp99, hr99⟩ := id hw
  refine h_aload_n dX11_book_0 rfl ?_
  refine h_iload_n dX11_book_1 rfl ?_
  refine h_cV1 dX11_book_2 k2_188 oVX11_isStation rfl rfl ?_
  refine c_isStation (n := ns) hns (by omega) (fun b1 => ?_) (fun b1 => ?_)
  · refine h_ifeq (tgt := 26) dX11_book_5 rfl (fun c => absurd c (by decide)) (fun _ => ?_)
    refine h_iload_n dX11_book_8 rfl ?_
    refine h_cS1 dX11_book_9 k4_46 oSX11_isSheet rfl ?_
    refine c_X11_isSheet (fun b2 => ?_) (fun b2 => ?_)
    · refine h_ifeq (tgt := 26) dX11_book_12 rfl (fun c => absurd c (by decide)) (fun _ => ?_)
      refine h_iload dX11_book_15 rfl ?_
      refine h_iconst dX11_book_17 ci_0 ?_
      refine h_bipush dX11_book_18 cb_8 ?_
      refine h_cS3 dX11_book_20 k2_154 oSX11_within rfl ?_
      refine c_X11_within (fun b3 => ?_) (fun b3 => ?_)
      · refine h_ifne (tgt := 28) dX11_book_23 rfl (fun _ => ?_) (fun c => absurd c (by decide))
        refine h_aload_n dX11_book_28 rfl ?_
        refine h_iload_n dX11_book_29 rfl ?_
        refine h_iconst dX11_book_30 ci_1 ?_
        refine h_cV2 dX11_book_31 k4_60 oVX11_refusalOfRow rfl rfl ?_
        refine c_refusal hS ht ?_
        rw [show rfs (so t) (nI 1) = nI 0 by rw [hso]; decide]
        refine h_istore dX11_book_34 (Nat.le_of_ble_eq_true rfl) ?_
        refine h_iload dX11_book_36 rfl ?_
        refine h_ifeq (tgt := 44) dX11_book_38 rfl (fun _ => ?_) (fun c => absurd (by decide) c)
        refine h_iconst dX11_book_44 ci_0 ?_
        refine h_istore dX11_book_45 (Nat.le_of_ble_eq_true rfl) ?_
        refine h_iconst dX11_book_47 ci_0 ?_
        refine h_istore dX11_book_48 (Nat.le_of_ble_eq_true rfl) ?_
        refine h_iload dX11_book_50 rfl ?_
        refine h_iload dX11_book_52 rfl ?_
        refine h_icmpge (tgt := 149) dX11_book_54 rfl (fun c_54 => ?_) (fun c_54 => ?_)
        · rw [nI_leI (by omega) (by omega)] at c_54
          refine h_iload dX11_book_149 rfl ?_
          refine h_ireturn dX11_book_151 rfl ?_
          rw [if_pos (by omega)] at hQ
          exact hQ
        · rw [nI_leI (by omega) (by omega)] at c_54
          refine h_iload_n dX11_book_57 rfl ?_
          refine h_iflt (tgt := 74) dX11_book_58 rfl (fun c_58 => ?_) (fun c_58 => ?_)
          · refine h_bipush dX11_book_74 cb_m12 ?_
            refine h_ireturn dX11_book_76 rfl ?_
            rw [if_neg (by omega)] at hQ
            exact hQ
          · exact absurd hz c_58
      · exact absurd ⟨by rw [nI_leI (by omega) (by omega)]; omega, by rw [nI_leI (by omega) (by omega)]; omega⟩ b3
    · exact absurd ⟨by rw [nI_leI (by omega) (by omega)]; omega, by rw [nI_leI (by omega) (by omega)]; omega⟩ b2
  · exact absurd ⟨s, hs, rfl⟩ b1
theorem r_bookB {l : Launch} {dp : Nat} {ns nl np ml nk nw : Nat} {pl fa fb sl pp pm ki fr tg wh bw : Nat → Nat} {rs sn : Nat → Int32} {fl : Nat → Bool} {qw : Nat → Nat → Nat → Nat → Bool} {I : hI} {J : hJ} {lt tx : Option Nat} {x y z w : Int32} {Q : hQ} (hG : rG I ns nl np ml nk nw pl fa fb sl pp pm ki fr tg wh bw rs sn fl qw) (hv : ¬ (isIx x ns ∧ sh4 y ∧ nI 0 ≤ w ∧ w ≤ nI 8)) (hQ : Q (some (.int (-1))) hSH I J (hRR lt tx)) : HC l mX12_book (dp + 3) 0 0 [.ref 82, .int x, .int y, .int z, .int w] hSH I J (hRR lt tx) Q := by
  refine HC.of (by decide +kernel) rfl (Nat.le_of_ble_eq_true rfl) ?_
  show HV l mX12_book (dp + 3) 0 0 0 [some (.ref 82), some (.int x), some (.int y), some (.int z), some (.int w), none, none, none] [] hSH I J (hRR lt tx) Q
  obtain ⟨hN, hw, ⟨hnp, hml, hnk, hpt, hsi⟩, ⟨hn8, hm2, hn24, hpW, hsW⟩, hL⟩ := id hG
  obtain ⟨hns, hnl, hpl, hlg⟩ := id hN
  obtain ⟨hn6, hl12, hW, hp99, hr99⟩ := id hw
  refine h_aload_n dX12_book_0 rfl ?_
  refine h_iload_n dX12_book_1 rfl ?_
  refine h_cV1 dX12_book_2 k5_179 oVX12_isStation rfl rfl ?_
  refine r_isStation (n := ns) hns (by omega) (fun b1 => ?_) (fun b1 => ?_)
  · refine h_ifeq (tgt := 26) dX12_book_5 rfl (fun c => absurd c (by decide)) (fun _ => ?_)
    refine h_iload_n dX12_book_8 rfl ?_
    refine h_cS1 dX12_book_9 k6_233 oSX12_isShelf rfl ?_
    refine c_X12_isShelf (fun b2 => ?_) (fun b2 => ?_)
    · refine h_ifeq (tgt := 26) dX12_book_12 rfl (fun c => absurd c (by decide)) (fun _ => ?_)
      refine h_iload dX12_book_15 rfl ?_
      refine h_iconst dX12_book_17 ci_0 ?_
      refine h_bipush dX12_book_18 cb_8 ?_
      refine h_cS3 dX12_book_20 k5_172 oSX12_in rfl ?_
      refine c_X12_in (fun b3 => ?_) (fun b3 => ?_)
      · exact absurd ⟨b1, b2, b3⟩ hv
      · refine h_ifne (tgt := 28) dX12_book_23 rfl (fun c => absurd (by decide) c) (fun _ => ?_)
        refine h_iconst dX12_book_26 ci_m1 ?_
        refine h_ireturn dX12_book_27 rfl ?_
        exact hQ
    · refine h_ifeq (tgt := 26) dX12_book_12 rfl (fun _ => ?_) (fun c => absurd (by decide) c)
      refine h_iconst dX12_book_26 ci_m1 ?_
      refine h_ireturn dX12_book_27 rfl ?_
      exact hQ
  · refine h_ifeq (tgt := 26) dX12_book_5 rfl (fun _ => ?_) (fun c => absurd (by decide) c)
    refine h_iconst dX12_book_26 ci_m1 ?_
    refine h_ireturn dX12_book_27 rfl ?_
    exact hQ
theorem r_bookR {l : Launch} {dp : Nat} {ns nl np ml nk nw : Nat} {pl fa fb sl pp pm ki fr tg wh bw : Nat → Nat} {rs sn : Nat → Int32} {fl : Nat → Bool} {qw : Nat → Nat → Nat → Nat → Bool} {I : hI} {J : hJ} {lt tx : Option Nat} {so : Nat → Int32} {si : Nat → Nat} {it : Nat → Nat → Int64} {s t : Nat} {z w : Int32} {Q : hQ} (hG : rG I ns nl np ml nk nw pl fa fb sl pp pm ki fr tg wh bw rs sn fl qw) (hS : rSh I J so si it) (hs : s < ns) (ht : t < 4) (hw9 : nI 0 ≤ w ∧ w ≤ nI 8) (hv : ¬ rfs (so t) (nI 1) = 0) (hQ : Q (some (.int (rfs (so t) (nI 1)))) hSH I J (hRR lt tx)) : HC l mX12_book (dp + 3) 0 0 [.ref 82, .int (nI s), .int (nI t), .int z, .int w] hSH I J (hRR lt tx) Q := by
  refine HC.of (by decide +kernel) rfl (Nat.le_of_ble_eq_true rfl) ?_
  show HV l mX12_book (dp + 3) 0 0 0 [some (.ref 82), some (.int (nI s)), some (.int (nI t)), some (.int z), some (.int w), none, none, none] [] hSH I J (hRR lt tx) Q
  obtain ⟨hN, hw, ⟨hnp, hml, hnk, hpt, hsi⟩, ⟨hn8, hm2, hn24, hpW, hsW⟩, hL⟩ := id hG
  obtain ⟨hns, hnl, hpl, hlg⟩ := id hN
  obtain ⟨hn6, hl12, hW, hp99, hr99⟩ := id hw
  refine h_aload_n dX12_book_0 rfl ?_
  refine h_iload_n dX12_book_1 rfl ?_
  refine h_cV1 dX12_book_2 k5_179 oVX12_isStation rfl rfl ?_
  refine r_isStation (n := ns) hns (by omega) (fun b1 => ?_) (fun b1 => ?_)
  · refine h_ifeq (tgt := 26) dX12_book_5 rfl (fun c => absurd c (by decide)) (fun _ => ?_)
    refine h_iload_n dX12_book_8 rfl ?_
    refine h_cS1 dX12_book_9 k6_233 oSX12_isShelf rfl ?_
    refine c_X12_isShelf (fun b2 => ?_) (fun b2 => ?_)
    · refine h_ifeq (tgt := 26) dX12_book_12 rfl (fun c => absurd c (by decide)) (fun _ => ?_)
      refine h_iload dX12_book_15 rfl ?_
      refine h_iconst dX12_book_17 ci_0 ?_
      refine h_bipush dX12_book_18 cb_8 ?_
      refine h_cS3 dX12_book_20 k5_172 oSX12_in rfl ?_
      refine c_X12_in (fun b3 => ?_) (fun b3 => ?_)
      · refine h_ifne (tgt := 28) dX12_book_23 rfl (fun _ => ?_) (fun c => absurd c (by decide))
        refine h_aload_n dX12_book_28 rfl ?_
        refine h_iload_n dX12_book_29 rfl ?_
        refine h_iconst dX12_book_30 ci_1 ?_
        refine h_cV2 dX12_book_31 k7_4 oVX12_lacksSort rfl rfl ?_
        refine r_refusal hS ht ?_
        refine h_istore dX12_book_34 (Nat.le_of_ble_eq_true rfl) ?_
        refine h_iload dX12_book_36 rfl ?_
        refine h_ifeq (tgt := 44) dX12_book_38 rfl (fun c_38 => ?_) (fun c_38 => ?_)
        · exact absurd c_38 hv
        · refine h_iload dX12_book_41 rfl ?_
          refine h_ireturn dX12_book_43 rfl ?_
          exact hQ
      · exact absurd hw9 b3
    · exact absurd ⟨by rw [nI_leI (by omega) (by omega)]; omega, by rw [nI_leI (by omega) (by omega)]; omega⟩ b2
  · exact absurd ⟨s, hs, rfl⟩ b1
theorem r_bookM {l : Launch} {dp : Nat} {ns nl np ml nk nw : Nat} {pl fa fb sl pp pm ki fr tg wh bw : Nat → Nat} {rs sn : Nat → Int32} {fl : Nat → Bool} {qw : Nat → Nat → Nat → Nat → Bool} {I : hI} {J : hJ} {lt tx : Option Nat} {so : Nat → Int32} {si : Nat → Nat} {it : Nat → Nat → Int64} {s t n : Nat} {z : Int32} {Q : hQ} (hG : rG I ns nl np ml nk nw pl fa fb sl pp pm ki fr tg wh bw rs sn fl qw) (hS : rSh I J so si it) (hs : s < ns) (ht : t < 4) (hn : n ≤ 8) (hso : so t = nI 1) (hz : z < 0) (hQ : Q (some (.int (if n = 0 then nI 0 else -12))) hSH I J (hRR lt tx)) : HC l mX12_book (dp + 3) 0 0 [.ref 82, .int (nI s), .int (nI t), .int z, .int (nI n)] hSH I J (hRR lt tx) Q := by
  refine HC.of (by decide +kernel) rfl (Nat.le_of_ble_eq_true rfl) ?_
  show HV l mX12_book (dp + 3) 0 0 0 [some (.ref 82), some (.int (nI s)), some (.int (nI t)), some (.int z), some (.int (nI n)), none, none, none] [] hSH I J (hRR lt tx) Q
  obtain ⟨hN, hw, ⟨hnp, hml, hnk, hpt, hsi⟩, ⟨hn8, hm2, hn24, hpW, hsW⟩, hL⟩ := id hG
  obtain ⟨hns, hnl, hpl, hlg⟩ := id hN
  obtain ⟨hn6, hl12, hW, hp99, hr99⟩ := id hw
  refine h_aload_n dX12_book_0 rfl ?_
  refine h_iload_n dX12_book_1 rfl ?_
  refine h_cV1 dX12_book_2 k5_179 oVX12_isStation rfl rfl ?_
  refine r_isStation (n := ns) hns (by omega) (fun b1 => ?_) (fun b1 => ?_)
  · refine h_ifeq (tgt := 26) dX12_book_5 rfl (fun c => absurd c (by decide)) (fun _ => ?_)
    refine h_iload_n dX12_book_8 rfl ?_
    refine h_cS1 dX12_book_9 k6_233 oSX12_isShelf rfl ?_
    refine c_X12_isShelf (fun b2 => ?_) (fun b2 => ?_)
    · refine h_ifeq (tgt := 26) dX12_book_12 rfl (fun c => absurd c (by decide)) (fun _ => ?_)
      refine h_iload dX12_book_15 rfl ?_
      refine h_iconst dX12_book_17 ci_0 ?_
      refine h_bipush dX12_book_18 cb_8 ?_
      refine h_cS3 dX12_book_20 k5_172 oSX12_in rfl ?_
      refine c_X12_in (fun b3 => ?_) (fun b3 => ?_)
      · refine h_ifne (tgt := 28) dX12_book_23 rfl (fun _ => ?_) (fun c => absurd c (by decide))
        refine h_aload_n dX12_book_28 rfl ?_
        refine h_iload_n dX12_book_29 rfl ?_
        refine h_iconst dX12_book_30 ci_1 ?_
        refine h_cV2 dX12_book_31 k7_4 oVX12_lacksSort rfl rfl ?_
        refine r_refusal hS ht ?_
        rw [show rfs (so t) (nI 1) = nI 0 by rw [hso]; decide]
        refine h_istore dX12_book_34 (Nat.le_of_ble_eq_true rfl) ?_
        refine h_iload dX12_book_36 rfl ?_
        refine h_ifeq (tgt := 44) dX12_book_38 rfl (fun _ => ?_) (fun c => absurd (by decide) c)
        refine h_iconst dX12_book_44 ci_0 ?_
        refine h_istore dX12_book_45 (Nat.le_of_ble_eq_true rfl) ?_
        refine h_iconst dX12_book_47 ci_0 ?_
        refine h_istore dX12_book_48 (Nat.le_of_ble_eq_true rfl) ?_
        refine h_iload dX12_book_50 rfl ?_
        refine h_iload dX12_book_52 rfl ?_
        refine h_icmpge (tgt := 124) dX12_book_54 rfl (fun c_54 => ?_) (fun c_54 => ?_)
        · rw [nI_leI (by omega) (by omega)] at c_54
          refine h_iload dX12_book_124 rfl ?_
          refine h_ireturn dX12_book_126 rfl ?_
          rw [if_pos (by omega)] at hQ
          exact hQ
        · rw [nI_leI (by omega) (by omega)] at c_54
          refine h_iload_n dX12_book_57 rfl ?_
          refine h_iflt (tgt := 76) dX12_book_58 rfl (fun c_58 => ?_) (fun c_58 => ?_)
          · refine h_bipush dX12_book_76 cb_m12 ?_
            refine h_ireturn dX12_book_78 rfl ?_
            rw [if_neg (by omega)] at hQ
            exact hQ
          · exact absurd hz c_58
      · exact absurd ⟨by rw [nI_leI (by omega) (by omega)]; omega, by rw [nI_leI (by omega) (by omega)]; omega⟩ b3
    · exact absurd ⟨by rw [nI_leI (by omega) (by omega)]; omega, by rw [nI_leI (by omega) (by omega)]; omega⟩ b2
  · exact absurd ⟨s, hs, rfl⟩ b1
theorem cN_eq {I I2 : hI} {B ns nl : Nat} {pl fa fb sl : Nat → Nat} {rs : Nat → Int32} (h : ∀ a, B ≤ a → a ≤ B + 5 → I2 a = I a) (hv : cN I B ns nl pl fa fb sl rs) : cN I2 B ns nl pl fa fb sl rs := by
  unfold cN
  rw [h B (by omega) (by omega), h (B + 1) (by omega) (by omega), h (B + 2) (by omega) (by omega), h (B + 3) (by omega) (by omega), h (B + 4) (by omega) (by omega), h (B + 5) (by omega) (by omega)]
  exact hv
theorem cNF_eq {I I2 : hI} {B ns nl : Nat} {pl fa fb sl : Nat → Nat} {rs : Nat → Int32} (h : ∀ a, B ≤ a → a ≤ B + 8 → I2 a = I a) (hv : cNF I B ns nl pl fa fb sl rs) : cNF I2 B ns nl pl fa fb sl rs := by
  refine ⟨cN_eq (fun a h1 h2 => h a h1 (by omega)) hv.1, ?_⟩
  rw [h (B + 6) (by omega) (by omega), h (B + 7) (by omega) (by omega), h (B + 8) (by omega) (by omega)]
  exact hv.2
theorem cV_eq {I I2 : hI} {B np ml nk : Nat} {pp pm ki fr tg wh : Nat → Nat} {sn : Nat → Int32} {fl : Nat → Bool} (h0 : I2 B = I B) (h : ∀ a, B + 17 ≤ a → a ≤ B + 23 → I2 a = I a) (hv : cV I B np ml nk pp pm ki fr tg wh sn fl) : cV I2 B np ml nk pp pm ki fr tg wh sn fl := by
  unfold cV
  rw [h0, h (B + 17) (by omega) (by omega), h (B + 18) (by omega) (by omega), h (B + 19) (by omega) (by omega), h (B + 20) (by omega) (by omega), h (B + 21) (by omega) (by omega), h (B + 22) (by omega) (by omega), h (B + 23) (by omega) (by omega)]
  exact hv
theorem cL_eq {I I2 : hI} {B nw : Nat} {bw : Nat → Nat} {qw : Nat → Nat → Nat → Nat → Bool} (h : ∀ a, B ≤ a → a ≤ B + 5 → I2 a = I a) (hv : cL I B nw bw qw) : cL I2 B nw bw qw := by
  unfold cL
  rw [h B (by omega) (by omega), h (B + 1) (by omega) (by omega), h (B + 2) (by omega) (by omega), h (B + 3) (by omega) (by omega), h (B + 4) (by omega) (by omega), h (B + 5) (by omega) (by omega)]
  exact hv
theorem cev_congr {sg lf rt sg2 lf2 rt2 : Nat → Int32} {ki aw wh : Nat} : ∀ (n i : Nat) (v : Int32), (∀ j, i ≤ j → j < i + n → sg2 j = sg j ∧ lf2 j = lf j ∧ rt2 j = rt j) → cev sg2 lf2 rt2 ki aw wh n i v = cev sg lf rt ki aw wh n i v
  | 0, i, v, h => rfl
  | n + 1, i, v, h => by
    obtain ⟨e1, e2, e3⟩ := h i (by omega) (by omega)
    show cev sg2 lf2 rt2 ki aw wh n (i + 1) (cst1 ki aw wh (sg2 i) (lf2 i) (rt2 i) v) = cev sg lf rt ki aw wh n (i + 1) (cst1 ki aw wh (sg i) (lf i) (rt i) v)
    rw [e1, e2, e3]
    exact cev_congr n (i + 1) _ (fun j h1 h2 => h j (by omega) (by omega))
/-- a law whose rows are copies -/
theorem cL_cp {I I2 : hI} {B B2 nw : Nat} {bw : Nat → Nat} {qw : Nat → Nat → Nat → Nat → Bool} (hv : cL I B2 nw bw qw) (h0 : I2 B 0 = I B2 0) (h1 : ∀ j, j < 8 → I2 (B + 1) j = I (B2 + 1) j) (h2 : ∀ j, j < 8 → I2 (B + 2) j = I (B2 + 2) j) (h3 : ∀ j, j < 100 → I2 (B + 3) j = I (B2 + 3) j) (h4 : ∀ j, j < 100 → I2 (B + 4) j = I (B2 + 4) j) (h5 : ∀ j, j < 100 → I2 (B + 5) j = I (B2 + 5) j) : cL I2 B nw bw qw := by
  obtain ⟨e0, e8, en, e1, e2⟩ := hv
  refine ⟨h0.trans e0, e8, en, fun c hc => ?_, fun c hc ki aw wh q1 q2 q3 => ?_⟩
  · rw [h1 c (by omega), h2 c (by omega)]; exact e1 c hc
  · have e9 := (e1 c hc).2.1
    rw [cev_congr (sg := I (B2 + 3)) (lf := I (B2 + 4)) (rt := I (B2 + 5)) _ _ _ (fun j z1 z2 => ⟨h3 j (by omega), h4 j (by omega), h5 j (by omega)⟩)]
    exact e2 c hc ki aw wh q1 q2 q3
theorem cp0 {I : hI} {a0 a1 n j : Nat} (h : j < n) : cpI I a0 a1 0 0 n a1 j = I a0 j := by
  unfold cpI va_cpy
  rw [if_pos rfl, if_pos ⟨Nat.zero_le _, by omega⟩]
  simp
theorem c_lawcopy_12_39 {l : Launch} {dp : Nat} {nw : Nat} {bw : Nat → Nat} {qw : Nat → Nat → Nat → Nat → Bool} {I : hI} {J : hJ} {lt tx : Option Nat} {Q : hQ} (hL : cL I 39 nw bw qw) (hQ : ∀ I', cL I' 12 nw bw qw → (∀ a, a < 12 ∨ 17 < a → I' a = I a) → Q none hSH I' J (hRR lt tx))  : HC l mX3_copy (dp + 1) 0 0 [.ref 12, .ref 39] hSH I J (hRR lt tx) Q := by
  refine HC.of (by decide +kernel) rfl (Nat.le_of_ble_eq_true rfl) ?_
  show HV l mX3_copy (dp + 1) 0 0 0 [some (.ref 12), some (.ref 39)] [] hSH I J (hRR lt tx) Q
  refine h_aload_n dX3_copy_0 rfl ?_
  refine h_aload_n dX3_copy_1 rfl ?_
  refine h_getI dX3_copy_2 f_X3_9_3 rfl hL.1 ?_
  refine h_putI dX3_copy_5 f_X3_9_3 p_X3_3_0 (fun h => by cases h) rfl ?_
  refine h_aload_n dX3_copy_8 rfl ?_
  refine h_getR dX3_copy_9 f_X3_15_3 rfl rfl ?_
  refine h_iconst dX3_copy_12 ci_0 ?_
  refine h_aload_n dX3_copy_13 rfl ?_
  refine h_getR dX3_copy_14 f_X3_15_3 rfl rfl ?_
  refine h_iconst dX3_copy_17 ci_0 ?_
  refine h_bipush dX3_copy_18 cb_8 ?_
  refine h_copy (N := 8) dX3_copy_20 k4_15 k4_17 k4_16 k1_15 rfl rfl rfl rfl rfl rfl (by decide) (by decide) (Nat.le_of_ble_eq_true rfl) ?_
  refine h_aload_n dX3_copy_23 rfl ?_
  refine h_getR dX3_copy_24 f_X3_19_3 rfl rfl ?_
  refine h_iconst dX3_copy_27 ci_0 ?_
  refine h_aload_n dX3_copy_28 rfl ?_
  refine h_getR dX3_copy_29 f_X3_19_3 rfl rfl ?_
  refine h_iconst dX3_copy_32 ci_0 ?_
  refine h_bipush dX3_copy_33 cb_8 ?_
  refine h_copy (N := 8) dX3_copy_35 k4_15 k4_17 k4_16 k1_15 rfl rfl rfl rfl rfl rfl (by decide) (by decide) (Nat.le_of_ble_eq_true rfl) ?_
  refine h_aload_n dX3_copy_38 rfl ?_
  refine h_aload_n dX3_copy_39 rfl ?_
  refine h_getI dX3_copy_40 f_X3_22_3 rfl rfl ?_
  refine h_putI dX3_copy_43 f_X3_22_3 p_X3_3_3 (fun h => by cases h) rfl ?_
  refine h_aload_n dX3_copy_46 rfl ?_
  refine h_getR dX3_copy_47 f_X3_25_3 rfl rfl ?_
  refine h_iconst dX3_copy_50 ci_0 ?_
  refine h_aload_n dX3_copy_51 rfl ?_
  refine h_getR dX3_copy_52 f_X3_25_3 rfl rfl ?_
  refine h_iconst dX3_copy_55 ci_0 ?_
  refine h_bipush dX3_copy_56 cb_100 ?_
  refine h_copy (N := 100) dX3_copy_58 k4_15 k4_17 k4_16 k1_15 rfl rfl rfl rfl rfl rfl (by decide) (by decide) (Nat.le_of_ble_eq_true rfl) ?_
  refine h_aload_n dX3_copy_61 rfl ?_
  refine h_getR dX3_copy_62 f_X3_28_3 rfl rfl ?_
  refine h_iconst dX3_copy_65 ci_0 ?_
  refine h_aload_n dX3_copy_66 rfl ?_
  refine h_getR dX3_copy_67 f_X3_28_3 rfl rfl ?_
  refine h_iconst dX3_copy_70 ci_0 ?_
  refine h_bipush dX3_copy_71 cb_100 ?_
  refine h_copy (N := 100) dX3_copy_73 k4_15 k4_17 k4_16 k1_15 rfl rfl rfl rfl rfl rfl (by decide) (by decide) (Nat.le_of_ble_eq_true rfl) ?_
  refine h_aload_n dX3_copy_76 rfl ?_
  refine h_getR dX3_copy_77 f_X3_31_3 rfl rfl ?_
  refine h_iconst dX3_copy_80 ci_0 ?_
  refine h_aload_n dX3_copy_81 rfl ?_
  refine h_getR dX3_copy_82 f_X3_31_3 rfl rfl ?_
  refine h_iconst dX3_copy_85 ci_0 ?_
  refine h_bipush dX3_copy_86 cb_100 ?_
  refine h_copy (N := 100) dX3_copy_88 k4_15 k4_17 k4_16 k1_15 rfl rfl rfl rfl rfl rfl (by decide) (by decide) (Nat.le_of_ble_eq_true rfl) ?_
  refine h_return dX3_copy_91 rfl ?_
  refine hQ _ (cL_cp hL hL.1.symm (fun j hj => sb_cpy0 hj) (fun j hj => sb_cpy0 hj) (fun j hj => sb_cpy0 hj) (fun j hj => sb_cpy0 hj) (fun j hj => sb_cpy0 hj)) (fun a ha => by simp only [upI, cpI]; rw [if_neg (by omega), if_neg (by omega), if_neg (by omega), if_neg (by omega), if_neg (by omega), if_neg (by omega), if_neg (by omega)])
theorem c_lawcopy_39_12 {l : Launch} {dp : Nat} {nw : Nat} {bw : Nat → Nat} {qw : Nat → Nat → Nat → Nat → Bool} {I : hI} {J : hJ} {lt tx : Option Nat} {Q : hQ} (hL : cL I 12 nw bw qw) (hQ : ∀ I', cL I' 39 nw bw qw → (∀ a, a < 39 ∨ 44 < a → I' a = I a) → Q none hSH I' J (hRR lt tx))  : HC l mX3_copy (dp + 1) 0 0 [.ref 39, .ref 12] hSH I J (hRR lt tx) Q := by
  refine HC.of (by decide +kernel) rfl (Nat.le_of_ble_eq_true rfl) ?_
  show HV l mX3_copy (dp + 1) 0 0 0 [some (.ref 39), some (.ref 12)] [] hSH I J (hRR lt tx) Q
  refine h_aload_n dX3_copy_0 rfl ?_
  refine h_aload_n dX3_copy_1 rfl ?_
  refine h_getI dX3_copy_2 f_X3_9_3 rfl hL.1 ?_
  refine h_putI dX3_copy_5 f_X3_9_3 p_X3_3_0 (fun h => by cases h) rfl ?_
  refine h_aload_n dX3_copy_8 rfl ?_
  refine h_getR dX3_copy_9 f_X3_15_3 rfl rfl ?_
  refine h_iconst dX3_copy_12 ci_0 ?_
  refine h_aload_n dX3_copy_13 rfl ?_
  refine h_getR dX3_copy_14 f_X3_15_3 rfl rfl ?_
  refine h_iconst dX3_copy_17 ci_0 ?_
  refine h_bipush dX3_copy_18 cb_8 ?_
  refine h_copy (N := 8) dX3_copy_20 k4_15 k4_17 k4_16 k1_15 rfl rfl rfl rfl rfl rfl (by decide) (by decide) (Nat.le_of_ble_eq_true rfl) ?_
  refine h_aload_n dX3_copy_23 rfl ?_
  refine h_getR dX3_copy_24 f_X3_19_3 rfl rfl ?_
  refine h_iconst dX3_copy_27 ci_0 ?_
  refine h_aload_n dX3_copy_28 rfl ?_
  refine h_getR dX3_copy_29 f_X3_19_3 rfl rfl ?_
  refine h_iconst dX3_copy_32 ci_0 ?_
  refine h_bipush dX3_copy_33 cb_8 ?_
  refine h_copy (N := 8) dX3_copy_35 k4_15 k4_17 k4_16 k1_15 rfl rfl rfl rfl rfl rfl (by decide) (by decide) (Nat.le_of_ble_eq_true rfl) ?_
  refine h_aload_n dX3_copy_38 rfl ?_
  refine h_aload_n dX3_copy_39 rfl ?_
  refine h_getI dX3_copy_40 f_X3_22_3 rfl rfl ?_
  refine h_putI dX3_copy_43 f_X3_22_3 p_X3_3_3 (fun h => by cases h) rfl ?_
  refine h_aload_n dX3_copy_46 rfl ?_
  refine h_getR dX3_copy_47 f_X3_25_3 rfl rfl ?_
  refine h_iconst dX3_copy_50 ci_0 ?_
  refine h_aload_n dX3_copy_51 rfl ?_
  refine h_getR dX3_copy_52 f_X3_25_3 rfl rfl ?_
  refine h_iconst dX3_copy_55 ci_0 ?_
  refine h_bipush dX3_copy_56 cb_100 ?_
  refine h_copy (N := 100) dX3_copy_58 k4_15 k4_17 k4_16 k1_15 rfl rfl rfl rfl rfl rfl (by decide) (by decide) (Nat.le_of_ble_eq_true rfl) ?_
  refine h_aload_n dX3_copy_61 rfl ?_
  refine h_getR dX3_copy_62 f_X3_28_3 rfl rfl ?_
  refine h_iconst dX3_copy_65 ci_0 ?_
  refine h_aload_n dX3_copy_66 rfl ?_
  refine h_getR dX3_copy_67 f_X3_28_3 rfl rfl ?_
  refine h_iconst dX3_copy_70 ci_0 ?_
  refine h_bipush dX3_copy_71 cb_100 ?_
  refine h_copy (N := 100) dX3_copy_73 k4_15 k4_17 k4_16 k1_15 rfl rfl rfl rfl rfl rfl (by decide) (by decide) (Nat.le_of_ble_eq_true rfl) ?_
  refine h_aload_n dX3_copy_76 rfl ?_
  refine h_getR dX3_copy_77 f_X3_31_3 rfl rfl ?_
  refine h_iconst dX3_copy_80 ci_0 ?_
  refine h_aload_n dX3_copy_81 rfl ?_
  refine h_getR dX3_copy_82 f_X3_31_3 rfl rfl ?_
  refine h_iconst dX3_copy_85 ci_0 ?_
  refine h_bipush dX3_copy_86 cb_100 ?_
  refine h_copy (N := 100) dX3_copy_88 k4_15 k4_17 k4_16 k1_15 rfl rfl rfl rfl rfl rfl (by decide) (by decide) (Nat.le_of_ble_eq_true rfl) ?_
  refine h_return dX3_copy_91 rfl ?_
  refine hQ _ (cL_cp hL hL.1.symm (fun j hj => sb_cpy0 hj) (fun j hj => sb_cpy0 hj) (fun j hj => sb_cpy0 hj) (fun j hj => sb_cpy0 hj) (fun j hj => sb_cpy0 hj)) (fun a ha => by simp only [upI, cpI]; rw [if_neg (by omega), if_neg (by omega), if_neg (by omega), if_neg (by omega), if_neg (by omega), if_neg (by omega), if_neg (by omega)])
theorem c_lawcopy_12_55 {l : Launch} {dp : Nat} {nw : Nat} {bw : Nat → Nat} {qw : Nat → Nat → Nat → Nat → Bool} {I : hI} {J : hJ} {lt tx : Option Nat} {Q : hQ} (hL : cL I 55 nw bw qw) (hQ : ∀ I', cL I' 12 nw bw qw → (∀ a, a < 12 ∨ 17 < a → I' a = I a) → Q none hSH I' J (hRR lt tx))  : HC l mX3_copy (dp + 1) 0 0 [.ref 12, .ref 55] hSH I J (hRR lt tx) Q := by
  refine HC.of (by decide +kernel) rfl (Nat.le_of_ble_eq_true rfl) ?_
  show HV l mX3_copy (dp + 1) 0 0 0 [some (.ref 12), some (.ref 55)] [] hSH I J (hRR lt tx) Q
  refine h_aload_n dX3_copy_0 rfl ?_
  refine h_aload_n dX3_copy_1 rfl ?_
  refine h_getI dX3_copy_2 f_X3_9_3 rfl hL.1 ?_
  refine h_putI dX3_copy_5 f_X3_9_3 p_X3_3_0 (fun h => by cases h) rfl ?_
  refine h_aload_n dX3_copy_8 rfl ?_
  refine h_getR dX3_copy_9 f_X3_15_3 rfl rfl ?_
  refine h_iconst dX3_copy_12 ci_0 ?_
  refine h_aload_n dX3_copy_13 rfl ?_
  refine h_getR dX3_copy_14 f_X3_15_3 rfl rfl ?_
  refine h_iconst dX3_copy_17 ci_0 ?_
  refine h_bipush dX3_copy_18 cb_8 ?_
  refine h_copy (N := 8) dX3_copy_20 k4_15 k4_17 k4_16 k1_15 rfl rfl rfl rfl rfl rfl (by decide) (by decide) (Nat.le_of_ble_eq_true rfl) ?_
  refine h_aload_n dX3_copy_23 rfl ?_
  refine h_getR dX3_copy_24 f_X3_19_3 rfl rfl ?_
  refine h_iconst dX3_copy_27 ci_0 ?_
  refine h_aload_n dX3_copy_28 rfl ?_
  refine h_getR dX3_copy_29 f_X3_19_3 rfl rfl ?_
  refine h_iconst dX3_copy_32 ci_0 ?_
  refine h_bipush dX3_copy_33 cb_8 ?_
  refine h_copy (N := 8) dX3_copy_35 k4_15 k4_17 k4_16 k1_15 rfl rfl rfl rfl rfl rfl (by decide) (by decide) (Nat.le_of_ble_eq_true rfl) ?_
  refine h_aload_n dX3_copy_38 rfl ?_
  refine h_aload_n dX3_copy_39 rfl ?_
  refine h_getI dX3_copy_40 f_X3_22_3 rfl rfl ?_
  refine h_putI dX3_copy_43 f_X3_22_3 p_X3_3_3 (fun h => by cases h) rfl ?_
  refine h_aload_n dX3_copy_46 rfl ?_
  refine h_getR dX3_copy_47 f_X3_25_3 rfl rfl ?_
  refine h_iconst dX3_copy_50 ci_0 ?_
  refine h_aload_n dX3_copy_51 rfl ?_
  refine h_getR dX3_copy_52 f_X3_25_3 rfl rfl ?_
  refine h_iconst dX3_copy_55 ci_0 ?_
  refine h_bipush dX3_copy_56 cb_100 ?_
  refine h_copy (N := 100) dX3_copy_58 k4_15 k4_17 k4_16 k1_15 rfl rfl rfl rfl rfl rfl (by decide) (by decide) (Nat.le_of_ble_eq_true rfl) ?_
  refine h_aload_n dX3_copy_61 rfl ?_
  refine h_getR dX3_copy_62 f_X3_28_3 rfl rfl ?_
  refine h_iconst dX3_copy_65 ci_0 ?_
  refine h_aload_n dX3_copy_66 rfl ?_
  refine h_getR dX3_copy_67 f_X3_28_3 rfl rfl ?_
  refine h_iconst dX3_copy_70 ci_0 ?_
  refine h_bipush dX3_copy_71 cb_100 ?_
  refine h_copy (N := 100) dX3_copy_73 k4_15 k4_17 k4_16 k1_15 rfl rfl rfl rfl rfl rfl (by decide) (by decide) (Nat.le_of_ble_eq_true rfl) ?_
  refine h_aload_n dX3_copy_76 rfl ?_
  refine h_getR dX3_copy_77 f_X3_31_3 rfl rfl ?_
  refine h_iconst dX3_copy_80 ci_0 ?_
  refine h_aload_n dX3_copy_81 rfl ?_
  refine h_getR dX3_copy_82 f_X3_31_3 rfl rfl ?_
  refine h_iconst dX3_copy_85 ci_0 ?_
  refine h_bipush dX3_copy_86 cb_100 ?_
  refine h_copy (N := 100) dX3_copy_88 k4_15 k4_17 k4_16 k1_15 rfl rfl rfl rfl rfl rfl (by decide) (by decide) (Nat.le_of_ble_eq_true rfl) ?_
  refine h_return dX3_copy_91 rfl ?_
  refine hQ _ (cL_cp hL hL.1.symm (fun j hj => sb_cpy0 hj) (fun j hj => sb_cpy0 hj) (fun j hj => sb_cpy0 hj) (fun j hj => sb_cpy0 hj) (fun j hj => sb_cpy0 hj)) (fun a ha => by simp only [upI, cpI]; rw [if_neg (by omega), if_neg (by omega), if_neg (by omega), if_neg (by omega), if_neg (by omega), if_neg (by omega), if_neg (by omega)])
/-- what keep keeps, in the class -/
def kG (I : hI) (ns nl np ml nk nw : Nat) (pl fa fb sl pp pm ki fr tg wh bw : Nat → Nat) (rs sn : Nat → Int32) (fl : Nat → Bool) (qw : Nat → Nat → Nat → Nat → Bool) : Prop := cN I 29 ns nl pl fa fb sl rs ∧ netW ns nl pl fa fb sl rs ∧ cV I 28 np ml nk pp pm ki fr tg wh sn fl ∧ viewW ns np ml nk pp pm ki fr tg wh sn ∧ cL I 39 nw bw qw
theorem c_viewcopy_1 {l : Launch} {dp : Nat} {ns nl np ml nk nw : Nat} {pl fa fb sl pp pm ki fr tg wh bw : Nat → Nat} {rs sn : Nat → Int32} {fl : Nat → Bool} {qw : Nat → Nat → Nat → Nat → Bool} {I : hI} {J : hJ} {lt tx : Option Nat} {Q : hQ} (hN : cN I 29 ns nl pl fa fb sl rs) (hw : netW ns nl pl fa fb sl rs) (hV : cV I 28 np ml nk pp pm ki fr tg wh sn fl) (hvw : viewW ns np ml nk pp pm ki fr tg wh sn) (hL : cL I 39 nw bw qw) (hQ : ∀ I', cG I' ns nl np ml nk nw pl fa fb sl pp pm ki fr tg wh bw rs sn fl qw → (∀ a, a < 1 ∨ 27 < a → I' a = I a) → Q none hSH I' J (hRR lt tx))  : HC l mX10_copy (dp + 4) 0 0 [.ref 1, .ref 28] hSH I J (hRR lt tx) Q := by
  refine HC.of (by decide +kernel) rfl (Nat.le_of_ble_eq_true rfl) ?_
  show HV l mX10_copy (dp + 4) 0 0 0 [some (.ref 1), some (.ref 28)] [] hSH I J (hRR lt tx) Q
  obtain ⟨hn8, hm2, hn24, hpW, hsW⟩ := id hvw
  refine h_aload_n dX10_copy_0 rfl ?_
  refine h_getR dX10_copy_1 f_X10_12_8 rfl rfl ?_
  refine h_aload_n dX10_copy_4 rfl ?_
  refine h_getR dX10_copy_5 f_X10_12_8 rfl rfl ?_
  refine h_cV1 dX10_copy_8 k4_227 oVX5_copy rfl rfl ?_
  refine c_netcopy_2 hN hw (fun I2 hC hF1 => ?_)
  have hL2 : cL I2 39 nw bw qw := cL_eq (fun a h1 h2 => hF1 a (by omega)) hL
  refine h_aload_n dX10_copy_11 rfl ?_
  refine h_getR dX10_copy_12 f_X10_21_8 rfl rfl ?_
  refine h_aload_n dX10_copy_15 rfl ?_
  refine h_getR dX10_copy_16 f_X10_21_8 rfl rfl ?_
  refine h_cV1 dX10_copy_19 k4_232 oVX3_copy rfl rfl ?_
  refine c_lawcopy_12_39 hL2 (fun I3 hL3 hF2 => ?_)
  have hF : ∀ a, a < 2 ∨ 17 < a → I3 a = I a := fun a ha => (hF2 a (by omega)).trans (hF1 a (by omega))
  obtain ⟨hnp, hml, hnk, hpt, hsi, hbt⟩ : cV I3 28 np ml nk pp pm ki fr tg wh sn fl := cV_eq (hF 28 (by omega)) (fun a h1 h2 => hF a (by omega)) hV
  refine h_aload_n dX10_copy_22 rfl ?_
  refine h_aload_n dX10_copy_23 rfl ?_
  refine h_getI dX10_copy_24 f_X10_25_8 rfl hnp ?_
  refine h_putI dX10_copy_27 f_X10_25_8 p_X10_8_2 (fun h => by cases h) rfl ?_
  refine h_aload_n dX10_copy_30 rfl ?_
  refine h_getR dX10_copy_31 f_X10_29_8 rfl rfl ?_
  refine h_iconst dX10_copy_34 ci_0 ?_
  refine h_aload_n dX10_copy_35 rfl ?_
  refine h_getR dX10_copy_36 f_X10_29_8 rfl rfl ?_
  refine h_iconst dX10_copy_39 ci_0 ?_
  refine h_bipush dX10_copy_40 cb_8 ?_
  refine h_copy (N := 8) dX10_copy_42 k4_233 k4_17 k4_16 k1_15 rfl rfl rfl rfl rfl rfl (by decide) (by decide) (Nat.le_of_ble_eq_true rfl) ?_
  refine h_aload_n dX10_copy_45 rfl ?_
  refine h_getR dX10_copy_46 f_X10_33_8 rfl rfl ?_
  refine h_iconst dX10_copy_49 ci_0 ?_
  refine h_aload_n dX10_copy_50 rfl ?_
  refine h_getR dX10_copy_51 f_X10_33_8 rfl rfl ?_
  refine h_iconst dX10_copy_54 ci_0 ?_
  refine h_bipush dX10_copy_55 cb_8 ?_
  refine h_copy (N := 8) dX10_copy_57 k4_233 k4_17 k4_16 k1_15 rfl rfl rfl rfl rfl rfl (by decide) (by decide) (Nat.le_of_ble_eq_true rfl) ?_
  refine h_aload_n dX10_copy_60 rfl ?_
  refine h_aload_n dX10_copy_61 rfl ?_
  refine h_getI dX10_copy_62 f_X10_36_8 rfl hml ?_
  refine h_putI dX10_copy_65 f_X10_36_8 p_X10_8_5 (fun h => by cases h) rfl ?_
  refine h_aload_n dX10_copy_68 rfl ?_
  refine h_aload_n dX10_copy_69 rfl ?_
  refine h_getI dX10_copy_70 f_X10_39_8 rfl hnk ?_
  refine h_putI dX10_copy_73 f_X10_39_8 p_X10_8_6 (fun h => by cases h) rfl ?_
  refine h_aload_n dX10_copy_76 rfl ?_
  refine h_getR dX10_copy_77 f_X10_42_8 rfl rfl ?_
  refine h_iconst dX10_copy_80 ci_0 ?_
  refine h_aload_n dX10_copy_81 rfl ?_
  refine h_getR dX10_copy_82 f_X10_42_8 rfl rfl ?_
  refine h_iconst dX10_copy_85 ci_0 ?_
  refine h_bipush dX10_copy_86 cb_24 ?_
  refine h_copy (N := 24) dX10_copy_88 k4_233 k4_17 k4_16 k1_15 rfl rfl rfl rfl rfl rfl (by decide) (by decide) (Nat.le_of_ble_eq_true rfl) ?_
  refine h_aload_n dX10_copy_91 rfl ?_
  refine h_getR dX10_copy_92 f_X10_45_8 rfl rfl ?_
  refine h_iconst dX10_copy_95 ci_0 ?_
  refine h_aload_n dX10_copy_96 rfl ?_
  refine h_getR dX10_copy_97 f_X10_45_8 rfl rfl ?_
  refine h_iconst dX10_copy_100 ci_0 ?_
  refine h_bipush dX10_copy_101 cb_24 ?_
  refine h_copy (N := 24) dX10_copy_103 k4_233 k4_17 k4_16 k1_15 rfl rfl rfl rfl rfl rfl (by decide) (by decide) (Nat.le_of_ble_eq_true rfl) ?_
  refine h_aload_n dX10_copy_106 rfl ?_
  refine h_getR dX10_copy_107 f_X10_48_8 rfl rfl ?_
  refine h_iconst dX10_copy_110 ci_0 ?_
  refine h_aload_n dX10_copy_111 rfl ?_
  refine h_getR dX10_copy_112 f_X10_48_8 rfl rfl ?_
  refine h_iconst dX10_copy_115 ci_0 ?_
  refine h_bipush dX10_copy_116 cb_24 ?_
  refine h_copy (N := 24) dX10_copy_118 k4_233 k4_17 k4_16 k1_15 rfl rfl rfl rfl rfl rfl (by decide) (by decide) (Nat.le_of_ble_eq_true rfl) ?_
  refine h_aload_n dX10_copy_121 rfl ?_
  refine h_getR dX10_copy_122 f_X10_51_8 rfl rfl ?_
  refine h_iconst dX10_copy_125 ci_0 ?_
  refine h_aload_n dX10_copy_126 rfl ?_
  refine h_getR dX10_copy_127 f_X10_51_8 rfl rfl ?_
  refine h_iconst dX10_copy_130 ci_0 ?_
  refine h_bipush dX10_copy_131 cb_24 ?_
  refine h_copy (N := 24) dX10_copy_133 k4_233 k4_17 k4_16 k1_15 rfl rfl rfl rfl rfl rfl (by decide) (by decide) (Nat.le_of_ble_eq_true rfl) ?_
  refine h_aload_n dX10_copy_136 rfl ?_
  refine h_getR dX10_copy_137 f_X10_54_8 rfl rfl ?_
  refine h_iconst dX10_copy_140 ci_0 ?_
  refine h_aload_n dX10_copy_141 rfl ?_
  refine h_getR dX10_copy_142 f_X10_54_8 rfl rfl ?_
  refine h_iconst dX10_copy_145 ci_0 ?_
  refine h_bipush dX10_copy_146 cb_24 ?_
  refine h_copy (N := 24) dX10_copy_148 k4_233 k4_17 k4_16 k1_15 rfl rfl rfl rfl rfl rfl (by decide) (by decide) (Nat.le_of_ble_eq_true rfl) ?_
  refine h_aload_n dX10_copy_151 rfl ?_
  refine h_aload_n dX10_copy_152 rfl ?_
  refine h_getI dX10_copy_153 f_X10_57_8 rfl rfl ?_
  refine h_putI dX10_copy_156 f_X10_57_8 p_X10_8_12 (fun h => by cases h) rfl ?_
  refine h_return dX10_copy_159 rfl ?_
  have hC3 : cNF I3 2 ns nl pl fa fb sl rs := cNF_eq (fun a h1 h2 => hF2 a (by omega)) hC
  refine hQ _ ?_ (fun a ha => ?_)
  · refine ⟨hC3, hw, ⟨rfl, rfl, rfl, fun p hp => ?_, fun k hk => ?_, fun k hk => ?_⟩, hvw, hL3⟩
    · exact ⟨(sb_cpy0 (by omega)).trans (hpt p hp).1, (sb_cpy0 (by omega)).trans (hpt p hp).2⟩
    · exact ⟨(sb_cpy0 (by omega)).trans (hsi k hk).1, (sb_cpy0 (by omega)).trans (hsi k hk).2.1, (sb_cpy0 (by omega)).trans (hsi k hk).2.2.1, (sb_cpy0 (by omega)).trans (hsi k hk).2.2.2.1, (sb_cpy0 (by omega)).trans (hsi k hk).2.2.2.2⟩
    · exact hbt k hk
  · simp only [upI, cpI]
    rw [if_neg (by omega), if_neg (by omega), if_neg (by omega), if_neg (by omega), if_neg (by omega), if_neg (by omega), if_neg (by omega), if_neg (by omega), if_neg (by omega), if_neg (by omega), if_neg (by omega)]
    exact hF a (by omega)
theorem c_viewcopy_28 {l : Launch} {dp : Nat} {ns nl np ml nk nw : Nat} {pl fa fb sl pp pm ki fr tg wh bw : Nat → Nat} {rs sn : Nat → Int32} {fl : Nat → Bool} {qw : Nat → Nat → Nat → Nat → Bool} {I : hI} {J : hJ} {lt tx : Option Nat} {Q : hQ} (hN : cN I 2 ns nl pl fa fb sl rs) (hw : netW ns nl pl fa fb sl rs) (hV : cV I 1 np ml nk pp pm ki fr tg wh sn fl) (hvw : viewW ns np ml nk pp pm ki fr tg wh sn) (hL : cL I 12 nw bw qw) (hQ : ∀ I', kG I' ns nl np ml nk nw pl fa fb sl pp pm ki fr tg wh bw rs sn fl qw → (∀ a, a < 28 ∨ 54 < a → I' a = I a) → Q none hSH I' J (hRR lt tx))  : HC l mX10_copy (dp + 4) 0 0 [.ref 28, .ref 1] hSH I J (hRR lt tx) Q := by
  refine HC.of (by decide +kernel) rfl (Nat.le_of_ble_eq_true rfl) ?_
  show HV l mX10_copy (dp + 4) 0 0 0 [some (.ref 28), some (.ref 1)] [] hSH I J (hRR lt tx) Q
  obtain ⟨hn8, hm2, hn24, hpW, hsW⟩ := id hvw
  refine h_aload_n dX10_copy_0 rfl ?_
  refine h_getR dX10_copy_1 f_X10_12_8 rfl rfl ?_
  refine h_aload_n dX10_copy_4 rfl ?_
  refine h_getR dX10_copy_5 f_X10_12_8 rfl rfl ?_
  refine h_cV1 dX10_copy_8 k4_227 oVX5_copy rfl rfl ?_
  refine c_netcopy_29 hN hw (fun I2 hC hF1 => ?_)
  have hL2 : cL I2 12 nw bw qw := cL_eq (fun a h1 h2 => hF1 a (by omega)) hL
  refine h_aload_n dX10_copy_11 rfl ?_
  refine h_getR dX10_copy_12 f_X10_21_8 rfl rfl ?_
  refine h_aload_n dX10_copy_15 rfl ?_
  refine h_getR dX10_copy_16 f_X10_21_8 rfl rfl ?_
  refine h_cV1 dX10_copy_19 k4_232 oVX3_copy rfl rfl ?_
  refine c_lawcopy_39_12 hL2 (fun I3 hL3 hF2 => ?_)
  have hF : ∀ a, a < 29 ∨ 44 < a → I3 a = I a := fun a ha => (hF2 a (by omega)).trans (hF1 a (by omega))
  obtain ⟨hnp, hml, hnk, hpt, hsi, hbt⟩ : cV I3 1 np ml nk pp pm ki fr tg wh sn fl := cV_eq (hF 1 (by omega)) (fun a h1 h2 => hF a (by omega)) hV
  refine h_aload_n dX10_copy_22 rfl ?_
  refine h_aload_n dX10_copy_23 rfl ?_
  refine h_getI dX10_copy_24 f_X10_25_8 rfl hnp ?_
  refine h_putI dX10_copy_27 f_X10_25_8 p_X10_8_2 (fun h => by cases h) rfl ?_
  refine h_aload_n dX10_copy_30 rfl ?_
  refine h_getR dX10_copy_31 f_X10_29_8 rfl rfl ?_
  refine h_iconst dX10_copy_34 ci_0 ?_
  refine h_aload_n dX10_copy_35 rfl ?_
  refine h_getR dX10_copy_36 f_X10_29_8 rfl rfl ?_
  refine h_iconst dX10_copy_39 ci_0 ?_
  refine h_bipush dX10_copy_40 cb_8 ?_
  refine h_copy (N := 8) dX10_copy_42 k4_233 k4_17 k4_16 k1_15 rfl rfl rfl rfl rfl rfl (by decide) (by decide) (Nat.le_of_ble_eq_true rfl) ?_
  refine h_aload_n dX10_copy_45 rfl ?_
  refine h_getR dX10_copy_46 f_X10_33_8 rfl rfl ?_
  refine h_iconst dX10_copy_49 ci_0 ?_
  refine h_aload_n dX10_copy_50 rfl ?_
  refine h_getR dX10_copy_51 f_X10_33_8 rfl rfl ?_
  refine h_iconst dX10_copy_54 ci_0 ?_
  refine h_bipush dX10_copy_55 cb_8 ?_
  refine h_copy (N := 8) dX10_copy_57 k4_233 k4_17 k4_16 k1_15 rfl rfl rfl rfl rfl rfl (by decide) (by decide) (Nat.le_of_ble_eq_true rfl) ?_
  refine h_aload_n dX10_copy_60 rfl ?_
  refine h_aload_n dX10_copy_61 rfl ?_
  refine h_getI dX10_copy_62 f_X10_36_8 rfl hml ?_
  refine h_putI dX10_copy_65 f_X10_36_8 p_X10_8_5 (fun h => by cases h) rfl ?_
  refine h_aload_n dX10_copy_68 rfl ?_
  refine h_aload_n dX10_copy_69 rfl ?_
  refine h_getI dX10_copy_70 f_X10_39_8 rfl hnk ?_
  refine h_putI dX10_copy_73 f_X10_39_8 p_X10_8_6 (fun h => by cases h) rfl ?_
  refine h_aload_n dX10_copy_76 rfl ?_
  refine h_getR dX10_copy_77 f_X10_42_8 rfl rfl ?_
  refine h_iconst dX10_copy_80 ci_0 ?_
  refine h_aload_n dX10_copy_81 rfl ?_
  refine h_getR dX10_copy_82 f_X10_42_8 rfl rfl ?_
  refine h_iconst dX10_copy_85 ci_0 ?_
  refine h_bipush dX10_copy_86 cb_24 ?_
  refine h_copy (N := 24) dX10_copy_88 k4_233 k4_17 k4_16 k1_15 rfl rfl rfl rfl rfl rfl (by decide) (by decide) (Nat.le_of_ble_eq_true rfl) ?_
  refine h_aload_n dX10_copy_91 rfl ?_
  refine h_getR dX10_copy_92 f_X10_45_8 rfl rfl ?_
  refine h_iconst dX10_copy_95 ci_0 ?_
  refine h_aload_n dX10_copy_96 rfl ?_
  refine h_getR dX10_copy_97 f_X10_45_8 rfl rfl ?_
  refine h_iconst dX10_copy_100 ci_0 ?_
  refine h_bipush dX10_copy_101 cb_24 ?_
  refine h_copy (N := 24) dX10_copy_103 k4_233 k4_17 k4_16 k1_15 rfl rfl rfl rfl rfl rfl (by decide) (by decide) (Nat.le_of_ble_eq_true rfl) ?_
  refine h_aload_n dX10_copy_106 rfl ?_
  refine h_getR dX10_copy_107 f_X10_48_8 rfl rfl ?_
  refine h_iconst dX10_copy_110 ci_0 ?_
  refine h_aload_n dX10_copy_111 rfl ?_
  refine h_getR dX10_copy_112 f_X10_48_8 rfl rfl ?_
  refine h_iconst dX10_copy_115 ci_0 ?_
  refine h_bipush dX10_copy_116 cb_24 ?_
  refine h_copy (N := 24) dX10_copy_118 k4_233 k4_17 k4_16 k1_15 rfl rfl rfl rfl rfl rfl (by decide) (by decide) (Nat.le_of_ble_eq_true rfl) ?_
  refine h_aload_n dX10_copy_121 rfl ?_
  refine h_getR dX10_copy_122 f_X10_51_8 rfl rfl ?_
  refine h_iconst dX10_copy_125 ci_0 ?_
  refine h_aload_n dX10_copy_126 rfl ?_
  refine h_getR dX10_copy_127 f_X10_51_8 rfl rfl ?_
  refine h_iconst dX10_copy_130 ci_0 ?_
  refine h_bipush dX10_copy_131 cb_24 ?_
  refine h_copy (N := 24) dX10_copy_133 k4_233 k4_17 k4_16 k1_15 rfl rfl rfl rfl rfl rfl (by decide) (by decide) (Nat.le_of_ble_eq_true rfl) ?_
  refine h_aload_n dX10_copy_136 rfl ?_
  refine h_getR dX10_copy_137 f_X10_54_8 rfl rfl ?_
  refine h_iconst dX10_copy_140 ci_0 ?_
  refine h_aload_n dX10_copy_141 rfl ?_
  refine h_getR dX10_copy_142 f_X10_54_8 rfl rfl ?_
  refine h_iconst dX10_copy_145 ci_0 ?_
  refine h_bipush dX10_copy_146 cb_24 ?_
  refine h_copy (N := 24) dX10_copy_148 k4_233 k4_17 k4_16 k1_15 rfl rfl rfl rfl rfl rfl (by decide) (by decide) (Nat.le_of_ble_eq_true rfl) ?_
  refine h_aload_n dX10_copy_151 rfl ?_
  refine h_aload_n dX10_copy_152 rfl ?_
  refine h_getI dX10_copy_153 f_X10_57_8 rfl rfl ?_
  refine h_putI dX10_copy_156 f_X10_57_8 p_X10_8_12 (fun h => by cases h) rfl ?_
  refine h_return dX10_copy_159 rfl ?_
  have hC3 : cNF I3 29 ns nl pl fa fb sl rs := cNF_eq (fun a h1 h2 => hF2 a (by omega)) hC
  refine hQ _ ?_ (fun a ha => ?_)
  · refine ⟨hC3.1, hw, ⟨rfl, rfl, rfl, fun p hp => ?_, fun k hk => ?_, fun k hk => ?_⟩, hvw, hL3⟩
    · exact ⟨(sb_cpy0 (by omega)).trans (hpt p hp).1, (sb_cpy0 (by omega)).trans (hpt p hp).2⟩
    · exact ⟨(sb_cpy0 (by omega)).trans (hsi k hk).1, (sb_cpy0 (by omega)).trans (hsi k hk).2.1, (sb_cpy0 (by omega)).trans (hsi k hk).2.2.1, (sb_cpy0 (by omega)).trans (hsi k hk).2.2.2.1, (sb_cpy0 (by omega)).trans (hsi k hk).2.2.2.2⟩
    · exact hbt k hk
  · simp only [upI, cpI]
    rw [if_neg (by omega), if_neg (by omega), if_neg (by omega), if_neg (by omega), if_neg (by omega), if_neg (by omega), if_neg (by omega), if_neg (by omega), if_neg (by omega), if_neg (by omega), if_neg (by omega)]
    exact hF a (by omega)
theorem c_keep {l : Launch} {dp : Nat} {ns nl np ml nk nw : Nat} {pl fa fb sl pp pm ki fr tg wh bw : Nat → Nat} {rs sn : Nat → Int32} {fl : Nat → Bool} {qw : Nat → Nat → Nat → Nat → Bool} {I : hI} {J : hJ} {lt tx : Option Nat} {Q : hQ} (hG : cG I ns nl np ml nk nw pl fa fb sl pp pm ki fr tg wh bw rs sn fl qw) (hQ : ∀ I', kG I' ns nl np ml nk nw pl fa fb sl pp pm ki fr tg wh bw rs sn fl qw → (∀ a, (a < 28 ∨ 54 < a) → a ≠ 0 → I' a = I a) → (∀ j, j ≠ 4 → I' 0 j = I 0 j) → I' 0 4 = nI 1 → Q (some (.int (nI 1))) hSH I' J (hRR lt tx))  : HC l mX11_keep (dp + 5) 0 0 [.ref 0] hSH I J (hRR lt tx) Q := by
  refine HC.of (by decide +kernel) rfl (Nat.le_of_ble_eq_true rfl) ?_
  show HV l mX11_keep (dp + 5) 0 0 0 [some (.ref 0)] [] hSH I J (hRR lt tx) Q
  obtain ⟨⟨hN, hdo, hla, hlv⟩, hw, ⟨hnp, hml, hnk, hpt, hsi, hbt⟩, ⟨hn8, hm2, hn24, hpW, hsW⟩, hL⟩ := id hG
  obtain ⟨hns, hnl, hpl, hlg⟩ := id hN
  obtain ⟨hn6, hl12, hW, hp99, hr99⟩ := id hw
  refine h_aload_n dX11_keep_0 rfl ?_
  refine h_getR dX11_keep_1 f_X11_26_9 rfl rfl ?_
  refine h_aload_n dX11_keep_4 rfl ?_
  refine h_getR dX11_keep_5 f_X11_10_9 rfl rfl ?_
  refine h_cV1 dX11_keep_8 k4_223 oVX10_copy rfl rfl ?_
  refine c_viewcopy_28 hN hw ⟨hnp, hml, hnk, hpt, hsi, hbt⟩ ⟨hn8, hm2, hn24, hpW, hsW⟩ hL (fun I2 hK hF => ?_)
  refine h_aload_n dX11_keep_11 rfl ?_
  refine h_iconst dX11_keep_12 ci_1 ?_
  refine h_putZ dX11_keep_13 f_X11_29_9 p_X11_9_4 (fun h => by cases h) rfl (by decide) ?_
  refine h_iconst dX11_keep_16 ci_1 ?_
  refine h_ireturn dX11_keep_17 rfl ?_
  refine hQ _ hK (fun a ha h0 => ?_) (fun j hj => ?_) rfl
  · rw [upI_n _ _ _ h0]; exact hF a ha
  · rw [upI_s, upd_n _ _ hj, hF 0 (by omega)]
theorem c_back {l : Launch} {dp : Nat} {ns nl np ml nk nw : Nat} {pl fa fb sl pp pm ki fr tg wh bw : Nat → Nat} {rs sn : Nat → Int32} {fl : Nat → Bool} {qw : Nat → Nat → Nat → Nat → Bool} {I : hI} {J : hJ} {lt tx : Option Nat} {Q : hQ} (hkp : I 0 4 = nI 1) (hK : kG I ns nl np ml nk nw pl fa fb sl pp pm ki fr tg wh bw rs sn fl qw) (hQ : ∀ I', cG I' ns nl np ml nk nw pl fa fb sl pp pm ki fr tg wh bw rs sn fl qw → (∀ a, a < 1 ∨ 27 < a → I' a = I a) → Q (some (.int (nI 1))) hSH I' J (hRR lt tx))  : HC l mX11_back (dp + 5) 0 0 [.ref 0] hSH I J (hRR lt tx) Q := by
  refine HC.of (by decide +kernel) rfl (Nat.le_of_ble_eq_true rfl) ?_
  show HV l mX11_back (dp + 5) 0 0 0 [some (.ref 0)] [] hSH I J (hRR lt tx) Q
  refine h_aload_n dX11_back_0 rfl ?_
  refine h_getZ dX11_back_1 f_X11_29_9 rfl hkp ?_
  refine h_ifne (tgt := 10) dX11_back_4 rfl (fun _ => ?_) (fun c => absurd c (by decide))
  refine h_aload_n dX11_back_10 rfl ?_
  refine h_getR dX11_back_11 f_X11_10_9 rfl rfl ?_
  refine h_aload_n dX11_back_14 rfl ?_
  refine h_getR dX11_back_15 f_X11_26_9 rfl rfl ?_
  refine h_cV1 dX11_back_18 k4_223 oVX10_copy rfl rfl ?_
  refine c_viewcopy_1 hK.1 hK.2.1 hK.2.2.1 hK.2.2.2.1 hK.2.2.2.2 (fun I2 hG hF => ?_)
  refine h_iconst dX11_back_21 ci_1 ?_
  refine h_ireturn dX11_back_22 rfl ?_
  exact hQ _ hG hF
theorem c_back0 {l : Launch} {dp : Nat} {I : hI} {J : hJ} {lt tx : Option Nat} {Q : hQ} (hkp : I 0 4 = nI 0) (hQ : Q (some (.int (-3))) hSH I J (hRR lt tx)) : HC l mX11_back (dp + 5) 0 0 [.ref 0] hSH I J (hRR lt tx) Q := by
  refine HC.of (by decide +kernel) rfl (Nat.le_of_ble_eq_true rfl) ?_
  show HV l mX11_back (dp + 5) 0 0 0 [some (.ref 0)] [] hSH I J (hRR lt tx) Q
  refine h_aload_n dX11_back_0 rfl ?_
  refine h_getZ dX11_back_1 f_X11_29_9 rfl hkp ?_
  refine h_ifne (tgt := 10) dX11_back_4 rfl (fun c => absurd (by decide) c) (fun _ => ?_)
  refine h_bipush dX11_back_7 cb_m3 ?_
  refine h_ireturn dX11_back_9 rfl ?_
  exact hQ
