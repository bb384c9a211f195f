theorem c_holdRow {l : Launch} {dp : Nat} {so : Nat → Int32} {si : Nat → Nat} {it : Nat → Nat → Int64} {I : hI} {J : hJ} {lt tx : Option Nat} {s t : Nat} {Q : hQ} (hS : cSh I J so si it) (hs : s < 4) (ht : t < 4) (hM : so t = -1 → Q none hSH (upI I 66 s (nI 3)) J (hRR lt tx)) (hR : ¬ so t = -1 → Q none hSH (upI (upI I 67 s (so t)) 68 s (nI (si t))) J (hRR lt tx)) : HC l mX11_holdRow dp 0 0 [.ref 0, .int (nI s), .int (nI t)] hSH I J (hRR lt tx) Q := by
  refine HC.of (by decide +kernel) rfl (Nat.le_of_ble_eq_true rfl) ?_
  show HV l mX11_holdRow dp 0 0 0 [some (.ref 0), some (.int (nI s)), some (.int (nI t))] [] hSH I J (hRR lt tx) Q
  obtain ⟨w1, w2, w3, w4, w5⟩ := hS t ht
  refine h_aload_n dX11_holdRow_0 rfl ?_
  refine h_getR dX11_holdRow_1 f_X11_54_9 rfl rfl ?_
  refine h_iload_n dX11_holdRow_4 rfl ?_
  refine h_ialdN (j := t) dX11_holdRow_5 rfl rfl (by omega) rfl w1 ?_
  refine h_iconst dX11_holdRow_6 ci_m1 ?_
  refine h_icmpne (tgt := 18) dX11_holdRow_7 rfl (fun c_7 => ?_) (fun c_7 => ?_)
  · refine h_aload_n dX11_holdRow_18 rfl ?_
    refine h_getR dX11_holdRow_19 f_X11_67_9 rfl rfl ?_
    refine h_iload_n dX11_holdRow_22 rfl ?_
    refine h_aload_n dX11_holdRow_23 rfl ?_
    refine h_getR dX11_holdRow_24 f_X11_54_9 rfl rfl ?_
    refine h_iload_n dX11_holdRow_27 rfl ?_
    refine h_ialdN (j := t) dX11_holdRow_28 rfl rfl (by omega) rfl w1 ?_
    refine h_iastN (j := s) dX11_holdRow_29 rfl rfl (by omega) rfl ?_
    refine h_aload_n dX11_holdRow_30 rfl ?_
    refine h_getR dX11_holdRow_31 f_X11_70_9 rfl rfl ?_
    refine h_iload_n dX11_holdRow_34 rfl ?_
    refine h_aload_n dX11_holdRow_35 rfl ?_
    refine h_getR dX11_holdRow_36 f_X11_57_9 rfl rfl ?_
    refine h_iload_n dX11_holdRow_39 rfl ?_
    refine h_ialdN (j := t) dX11_holdRow_40 rfl rfl (by omega) rfl w2 ?_
    refine h_iastN (j := s) dX11_holdRow_41 rfl rfl (by omega) rfl ?_
    refine h_return dX11_holdRow_42 rfl ?_
    exact hR c_7
  · refine h_aload_n dX11_holdRow_10 rfl ?_
    refine h_getR dX11_holdRow_11 f_X11_64_9 rfl rfl ?_
    refine h_iload_n dX11_holdRow_14 rfl ?_
    refine h_iconst dX11_holdRow_15 ci_3 ?_
    refine h_iastN (j := s) dX11_holdRow_16 rfl rfl (by omega) rfl ?_
    refine h_return dX11_holdRow_17 rfl ?_
    exact hM c_7
theorem c_shelf {l : Launch} {dp : Nat} {ns nl np ml nk nw : Nat} {pl fa fb sl pp pm ki fr tg wh bw : Nat → Nat} {rs sn : Nat → Int32} {fl : Nat → Bool} {qw : Nat → Nat → Nat → Nat → Bool} {I : hI} {J : hJ} {lt tx : Option Nat} {so : Nat → Int32} {si : Nat → Nat} {it : Nat → Nat → Int64} {x w n : Int32} {Q : hQ} (hG : cG I ns nl np ml nk nw pl fa fb sl pp pm ki fr tg wh bw rs sn fl qw) (hS : cSh I J so si it) (hB : ¬ (sh4 x ∧ thP nk np w n) → Q (some (.int (-1))) hSH I J (hRR lt tx)) (hO : ∀ s, x = nI s → s < 4 → ((w = nI 0 ∧ isIx n nk) ∨ (w = nI 1 ∧ isIx n np) ∨ w = nI 3) → Q (some (.int (nI 1))) hSH (upI (upI I 66 s w) 67 s n) J (hRR lt tx)) (hM : ∀ s t, x = nI s → n = nI t → s < 4 → t < 4 → w = nI 2 → so t = -1 → Q (some (.int (nI 1))) hSH (upI (upI (upI I 66 s w) 67 s n) 66 s (nI 3)) J (hRR lt tx)) (hR : ∀ s t, x = nI s → n = nI t → s < 4 → t < 4 → w = nI 2 → ¬ so t = -1 → Q (some (.int (nI 1))) hSH (upI (upI (upI (upI I 66 s w) 67 s n) 67 s (so t)) 68 s (nI (si t))) J (hRR lt tx)) : HC l mX11_shelf (dp + 2) 0 0 [.ref 0, .int x, .int w, .int n] hSH I J (hRR lt tx) Q := by
  refine HC.of (by decide +kernel) rfl (Nat.le_of_ble_eq_true rfl) ?_
  obtain ⟨⟨hN, hdo, hla, hlv⟩, hw, ⟨hnp, hml, hnk, hpt, hsi, hbt⟩, ⟨hn8, hm2, hn24, hpW, hsW⟩, hL⟩ := id hG
  obtain ⟨hns, hnl, hpl, hlg⟩ := id hN
  obtain ⟨hn6, hl12, hW, hp99, hr99⟩ := id hw
  by_cases e_0 : w = nI 0
  · subst e_0
    show HV l mX11_shelf (dp + 2) 0 0 0 [some (.ref 0), some (.int x), some (.int (nI 0)), some (.int n), none, none, none] [] hSH I J (hRR lt tx) Q
    refine h_iload_n dX11_shelf_0 rfl ?_
    refine h_cS1 dX11_shelf_1 k4_72 oSX11_isShelf rfl ?_
    refine c_X11_isShelf (fun b1 => ?_) (fun b1 => ?_)
    · obtain ⟨s, hxs, -, hs3⟩ := rng_ex (by omega) (by omega) b1.1 b1.2
      subst hxs
      refine h_ifne (tgt := 9) dX11_shelf_4 rfl (fun _ => ?_) (fun c => absurd c (by decide))
      refine h_iload_n dX11_shelf_9 rfl ?_
      refine h_ifne (tgt := 25) dX11_shelf_10 rfl (fun c => absurd (by decide) c) (fun _ => ?_)
      refine h_aload_n dX11_shelf_13 rfl ?_
      refine h_iload_n dX11_shelf_14 rfl ?_
      refine h_cV1 dX11_shelf_15 k3_40 oVX11_isSight rfl rfl ?_
      refine c_isSight (n := nk) hnk (by omega) (fun b2 => ?_) (fun b2 => ?_)
      · refine h_ifeq (tgt := 25) dX11_shelf_18 rfl (fun c => absurd c (by decide)) (fun _ => ?_)
        refine h_iconst dX11_shelf_21 ci_1 ?_
        refine h_goto (tgt := 26) dX11_shelf_22 rfl ?_
        refine h_istore dX11_shelf_26 (Nat.le_of_ble_eq_true rfl) ?_
        refine h_iload_n dX11_shelf_28 rfl ?_
        refine h_iconst dX11_shelf_29 ci_1 ?_
        refine h_icmpne (tgt := 45) dX11_shelf_30 rfl (fun _ => ?_) (fun c => absurd c (by decide))
        refine h_iconst dX11_shelf_45 ci_0 ?_
        refine h_istore dX11_shelf_46 (Nat.le_of_ble_eq_true rfl) ?_
        refine h_iload_n dX11_shelf_48 rfl ?_
        refine h_iconst dX11_shelf_49 ci_2 ?_
        refine h_icmpne (tgt := 64) dX11_shelf_50 rfl (fun _ => ?_) (fun c => absurd c (by decide))
        refine h_iconst dX11_shelf_64 ci_0 ?_
        refine h_istore dX11_shelf_65 (Nat.le_of_ble_eq_true rfl) ?_
        refine h_iload dX11_shelf_67 rfl ?_
        refine h_ifne (tgt := 89) dX11_shelf_69 rfl (fun _ => ?_) (fun c => absurd c (by decide))
        refine h_aload_n dX11_shelf_89 rfl ?_
        refine h_getR dX11_shelf_90 f_X11_64_9 rfl rfl ?_
        refine h_iload_n dX11_shelf_93 rfl ?_
        refine h_iload_n dX11_shelf_94 rfl ?_
        refine h_iastN (j := s) dX11_shelf_95 rfl rfl (by omega) rfl ?_
        refine h_aload_n dX11_shelf_96 rfl ?_
        refine h_getR dX11_shelf_97 f_X11_67_9 rfl rfl ?_
        refine h_iload_n dX11_shelf_100 rfl ?_
        refine h_iload_n dX11_shelf_101 rfl ?_
        refine h_iastN (j := s) dX11_shelf_102 rfl rfl (by omega) rfl ?_
        refine h_iload dX11_shelf_103 rfl ?_
        refine h_ifeq (tgt := 114) dX11_shelf_105 rfl (fun _ => ?_) (fun c => absurd (by decide) c)
        refine h_iconst dX11_shelf_114 ci_1 ?_
        refine h_ireturn dX11_shelf_115 rfl ?_
        exact hO s rfl (by omega) (.inl ⟨rfl, b2⟩)
      · refine h_ifeq (tgt := 25) dX11_shelf_18 rfl (fun _ => ?_) (fun c => absurd (by decide) c)
        refine h_iconst dX11_shelf_25 ci_0 ?_
        refine h_istore dX11_shelf_26 (Nat.le_of_ble_eq_true rfl) ?_
        refine h_iload_n dX11_shelf_28 rfl ?_
        refine h_iconst dX11_shelf_29 ci_1 ?_
        refine h_icmpne (tgt := 45) dX11_shelf_30 rfl (fun _ => ?_) (fun c => absurd c (by decide))
        refine h_iconst dX11_shelf_45 ci_0 ?_
        refine h_istore dX11_shelf_46 (Nat.le_of_ble_eq_true rfl) ?_
        refine h_iload_n dX11_shelf_48 rfl ?_
        refine h_iconst dX11_shelf_49 ci_2 ?_
        refine h_icmpne (tgt := 64) dX11_shelf_50 rfl (fun _ => ?_) (fun c => absurd c (by decide))
        refine h_iconst dX11_shelf_64 ci_0 ?_
        refine h_istore dX11_shelf_65 (Nat.le_of_ble_eq_true rfl) ?_
        refine h_iload dX11_shelf_67 rfl ?_
        refine h_ifne (tgt := 89) dX11_shelf_69 rfl (fun c => absurd (by decide) c) (fun _ => ?_)
        refine h_iload dX11_shelf_72 rfl ?_
        refine h_ifne (tgt := 89) dX11_shelf_74 rfl (fun c => absurd (by decide) c) (fun _ => ?_)
        refine h_iload dX11_shelf_77 rfl ?_
        refine h_ifne (tgt := 89) dX11_shelf_79 rfl (fun c => absurd (by decide) c) (fun _ => ?_)
        refine h_iload_n dX11_shelf_82 rfl ?_
        refine h_iconst dX11_shelf_83 ci_3 ?_
        refine h_icmpeq (tgt := 89) dX11_shelf_84 rfl (fun c => absurd c (by decide)) (fun _ => ?_)
        refine h_iconst dX11_shelf_87 ci_m1 ?_
        refine h_ireturn dX11_shelf_88 rfl ?_
        exact hB (fun z => by
          rcases z.2 with q | q | q | q
          · exact b2 q.2
          · exact absurd q.1 (by decide)
          · exact absurd q.1 (by decide)
          · exact absurd q (by decide))
    · refine h_ifne (tgt := 9) dX11_shelf_4 rfl (fun c => absurd (by decide) c) (fun _ => ?_)
      refine h_iconst dX11_shelf_7 ci_m1 ?_
      refine h_ireturn dX11_shelf_8 rfl ?_
      exact hB (fun z => b1 z.1)
  by_cases e_1 : w = nI 1
  · subst e_1
    show HV l mX11_shelf (dp + 2) 0 0 0 [some (.ref 0), some (.int x), some (.int (nI 1)), some (.int n), none, none, none] [] hSH I J (hRR lt tx) Q
    refine h_iload_n dX11_shelf_0 rfl ?_
    refine h_cS1 dX11_shelf_1 k4_72 oSX11_isShelf rfl ?_
    refine c_X11_isShelf (fun b1 => ?_) (fun b1 => ?_)
    · obtain ⟨s, hxs, -, hs3⟩ := rng_ex (by omega) (by omega) b1.1 b1.2
      subst hxs
      refine h_ifne (tgt := 9) dX11_shelf_4 rfl (fun _ => ?_) (fun c => absurd c (by decide))
      refine h_iload_n dX11_shelf_9 rfl ?_
      refine h_ifne (tgt := 25) dX11_shelf_10 rfl (fun _ => ?_) (fun c => absurd c (by decide))
      refine h_iconst dX11_shelf_25 ci_0 ?_
      refine h_istore dX11_shelf_26 (Nat.le_of_ble_eq_true rfl) ?_
      refine h_iload_n dX11_shelf_28 rfl ?_
      refine h_iconst dX11_shelf_29 ci_1 ?_
      refine h_icmpne (tgt := 45) dX11_shelf_30 rfl (fun c => absurd (by decide) c) (fun _ => ?_)
      refine h_aload_n dX11_shelf_33 rfl ?_
      refine h_iload_n dX11_shelf_34 rfl ?_
      refine h_cV1 dX11_shelf_35 k3_11 oVX11_isPoint rfl rfl ?_
      refine c_isPoint (n := np) hnp (by omega) (fun b2 => ?_) (fun b2 => ?_)
      · refine h_ifeq (tgt := 45) dX11_shelf_38 rfl (fun c => absurd c (by decide)) (fun _ => ?_)
        refine h_iconst dX11_shelf_41 ci_1 ?_
        refine h_goto (tgt := 46) dX11_shelf_42 rfl ?_
        refine h_istore dX11_shelf_46 (Nat.le_of_ble_eq_true rfl) ?_
        refine h_iload_n dX11_shelf_48 rfl ?_
        refine h_iconst dX11_shelf_49 ci_2 ?_
        refine h_icmpne (tgt := 64) dX11_shelf_50 rfl (fun _ => ?_) (fun c => absurd c (by decide))
        refine h_iconst dX11_shelf_64 ci_0 ?_
        refine h_istore dX11_shelf_65 (Nat.le_of_ble_eq_true rfl) ?_
        refine h_iload dX11_shelf_67 rfl ?_
        refine h_ifne (tgt := 89) dX11_shelf_69 rfl (fun c => absurd (by decide) c) (fun _ => ?_)
        refine h_iload dX11_shelf_72 rfl ?_
        refine h_ifne (tgt := 89) dX11_shelf_74 rfl (fun _ => ?_) (fun c => absurd c (by decide))
        refine h_aload_n dX11_shelf_89 rfl ?_
        refine h_getR dX11_shelf_90 f_X11_64_9 rfl rfl ?_
        refine h_iload_n dX11_shelf_93 rfl ?_
        refine h_iload_n dX11_shelf_94 rfl ?_
        refine h_iastN (j := s) dX11_shelf_95 rfl rfl (by omega) rfl ?_
        refine h_aload_n dX11_shelf_96 rfl ?_
        refine h_getR dX11_shelf_97 f_X11_67_9 rfl rfl ?_
        refine h_iload_n dX11_shelf_100 rfl ?_
        refine h_iload_n dX11_shelf_101 rfl ?_
        refine h_iastN (j := s) dX11_shelf_102 rfl rfl (by omega) rfl ?_
        refine h_iload dX11_shelf_103 rfl ?_
        refine h_ifeq (tgt := 114) dX11_shelf_105 rfl (fun _ => ?_) (fun c => absurd (by decide) c)
        refine h_iconst dX11_shelf_114 ci_1 ?_
        refine h_ireturn dX11_shelf_115 rfl ?_
        exact hO s rfl (by omega) (.inr (.inl ⟨rfl, b2⟩))
      · refine h_ifeq (tgt := 45) dX11_shelf_38 rfl (fun _ => ?_) (fun c => absurd (by decide) c)
        refine h_iconst dX11_shelf_45 ci_0 ?_
        refine h_istore dX11_shelf_46 (Nat.le_of_ble_eq_true rfl) ?_
        refine h_iload_n dX11_shelf_48 rfl ?_
        refine h_iconst dX11_shelf_49 ci_2 ?_
        refine h_icmpne (tgt := 64) dX11_shelf_50 rfl (fun _ => ?_) (fun c => absurd c (by decide))
        refine h_iconst dX11_shelf_64 ci_0 ?_
        refine h_istore dX11_shelf_65 (Nat.le_of_ble_eq_true rfl) ?_
        refine h_iload dX11_shelf_67 rfl ?_
        refine h_ifne (tgt := 89) dX11_shelf_69 rfl (fun c => absurd (by decide) c) (fun _ => ?_)
        refine h_iload dX11_shelf_72 rfl ?_
        refine h_ifne (tgt := 89) dX11_shelf_74 rfl (fun c => absurd (by decide) c) (fun _ => ?_)
        refine h_iload dX11_shelf_77 rfl ?_
        refine h_ifne (tgt := 89) dX11_shelf_79 rfl (fun c => absurd (by decide) c) (fun _ => ?_)
        refine h_iload_n dX11_shelf_82 rfl ?_
        refine h_iconst dX11_shelf_83 ci_3 ?_
        refine h_icmpeq (tgt := 89) dX11_shelf_84 rfl (fun c => absurd c (by decide)) (fun _ => ?_)
        refine h_iconst dX11_shelf_87 ci_m1 ?_
        refine h_ireturn dX11_shelf_88 rfl ?_
        exact hB (fun z => by
          rcases z.2 with q | q | q | q
          · exact absurd q.1 (by decide)
          · exact b2 q.2
          · exact absurd q.1 (by decide)
          · exact absurd q (by decide))
    · refine h_ifne (tgt := 9) dX11_shelf_4 rfl (fun c => absurd (by decide) c) (fun _ => ?_)
      refine h_iconst dX11_shelf_7 ci_m1 ?_
      refine h_ireturn dX11_shelf_8 rfl ?_
      exact hB (fun z => b1 z.1)
  by_cases e_2 : w = nI 2
  · subst e_2
    show HV l mX11_shelf (dp + 2) 0 0 0 [some (.ref 0), some (.int x), some (.int (nI 2)), some (.int n), none, none, none] [] hSH I J (hRR lt tx) Q
    refine h_iload_n dX11_shelf_0 rfl ?_
    refine h_cS1 dX11_shelf_1 k4_72 oSX11_isShelf rfl ?_
    refine c_X11_isShelf (fun b1 => ?_) (fun b1 => ?_)
    · obtain ⟨s, hxs, -, hs3⟩ := rng_ex (by omega) (by omega) b1.1 b1.2
      subst hxs
      refine h_ifne (tgt := 9) dX11_shelf_4 rfl (fun _ => ?_) (fun c => absurd c (by decide))
      refine h_iload_n dX11_shelf_9 rfl ?_
      refine h_ifne (tgt := 25) dX11_shelf_10 rfl (fun _ => ?_) (fun c => absurd c (by decide))
      refine h_iconst dX11_shelf_25 ci_0 ?_
      refine h_istore dX11_shelf_26 (Nat.le_of_ble_eq_true rfl) ?_
      refine h_iload_n dX11_shelf_28 rfl ?_
      refine h_iconst dX11_shelf_29 ci_1 ?_
      refine h_icmpne (tgt := 45) dX11_shelf_30 rfl (fun _ => ?_) (fun c => absurd c (by decide))
      refine h_iconst dX11_shelf_45 ci_0 ?_
      refine h_istore dX11_shelf_46 (Nat.le_of_ble_eq_true rfl) ?_
      refine h_iload_n dX11_shelf_48 rfl ?_
      refine h_iconst dX11_shelf_49 ci_2 ?_
      refine h_icmpne (tgt := 64) dX11_shelf_50 rfl (fun c => absurd (by decide) c) (fun _ => ?_)
      refine h_iload_n dX11_shelf_53 rfl ?_
      refine h_cS1 dX11_shelf_54 k4_46 oSX11_isSheet rfl ?_
      refine c_X11_isSheet (fun b2 => ?_) (fun b2 => ?_)
      · obtain ⟨t, rfl, -, ht3⟩ := rng_ex (by omega) (by omega) b2.1 b2.2
        refine h_ifeq (tgt := 64) dX11_shelf_57 rfl (fun c => absurd c (by decide)) (fun _ => ?_)
        refine h_iconst dX11_shelf_60 ci_1 ?_
        refine h_goto (tgt := 65) dX11_shelf_61 rfl ?_
        refine h_istore dX11_shelf_65 (Nat.le_of_ble_eq_true rfl) ?_
        refine h_iload dX11_shelf_67 rfl ?_
        refine h_ifne (tgt := 89) dX11_shelf_69 rfl (fun c => absurd (by decide) c) (fun _ => ?_)
        refine h_iload dX11_shelf_72 rfl ?_
        refine h_ifne (tgt := 89) dX11_shelf_74 rfl (fun c => absurd (by decide) c) (fun _ => ?_)
        refine h_iload dX11_shelf_77 rfl ?_
        refine h_ifne (tgt := 89) dX11_shelf_79 rfl (fun _ => ?_) (fun c => absurd c (by decide))
        refine h_aload_n dX11_shelf_89 rfl ?_
        refine h_getR dX11_shelf_90 f_X11_64_9 rfl rfl ?_
        refine h_iload_n dX11_shelf_93 rfl ?_
        refine h_iload_n dX11_shelf_94 rfl ?_
        refine h_iastN (j := s) dX11_shelf_95 rfl rfl (by omega) rfl ?_
        refine h_aload_n dX11_shelf_96 rfl ?_
        refine h_getR dX11_shelf_97 f_X11_67_9 rfl rfl ?_
        refine h_iload_n dX11_shelf_100 rfl ?_
        refine h_iload_n dX11_shelf_101 rfl ?_
        refine h_iastN (j := s) dX11_shelf_102 rfl rfl (by omega) rfl ?_
        refine h_iload dX11_shelf_103 rfl ?_
        refine h_ifeq (tgt := 114) dX11_shelf_105 rfl (fun c => absurd c (by decide)) (fun _ => ?_)
        refine h_aload_n dX11_shelf_108 rfl ?_
        refine h_iload_n dX11_shelf_109 rfl ?_
        refine h_iload_n dX11_shelf_110 rfl ?_
        refine h_cV2 dX11_shelf_111 k4_75 oVX11_holdRow rfl rfl ?_
        refine c_holdRow hS (by omega) (show t < 4 by omega) (fun e5 => ?_) (fun e5 => ?_)
        · refine h_iconst dX11_shelf_114 ci_1 ?_
          refine h_ireturn dX11_shelf_115 rfl ?_
          exact hM s t rfl rfl (by omega) (by omega) rfl e5
        · refine h_iconst dX11_shelf_114 ci_1 ?_
          refine h_ireturn dX11_shelf_115 rfl ?_
          exact hR s t rfl rfl (by omega) (by omega) rfl e5
      · refine h_ifeq (tgt := 64) dX11_shelf_57 rfl (fun _ => ?_) (fun c => absurd (by decide) c)
        refine h_iconst dX11_shelf_64 ci_0 ?_
        refine h_istore dX11_shelf_65 (Nat.le_of_ble_eq_true rfl) ?_
        refine h_iload dX11_shelf_67 rfl ?_
        refine h_ifne (tgt := 89) dX11_shelf_69 rfl (fun c => absurd (by decide) c) (fun _ => ?_)
        refine h_iload dX11_shelf_72 rfl ?_
        refine h_ifne (tgt := 89) dX11_shelf_74 rfl (fun c => absurd (by decide) c) (fun _ => ?_)
        refine h_iload dX11_shelf_77 rfl ?_
        refine h_ifne (tgt := 89) dX11_shelf_79 rfl (fun c => absurd (by decide) c) (fun _ => ?_)
        refine h_iload_n dX11_shelf_82 rfl ?_
        refine h_iconst dX11_shelf_83 ci_3 ?_
        refine h_icmpeq (tgt := 89) dX11_shelf_84 rfl (fun c => absurd c (by decide)) (fun _ => ?_)
        refine h_iconst dX11_shelf_87 ci_m1 ?_
        refine h_ireturn dX11_shelf_88 rfl ?_
        exact hB (fun z => by
          rcases z.2 with q | q | q | q
          · exact absurd q.1 (by decide)
          · exact absurd q.1 (by decide)
          · exact b2 q.2
          · exact absurd q (by decide))
    · refine h_ifne (tgt := 9) dX11_shelf_4 rfl (fun c => absurd (by decide) c) (fun _ => ?_)
      refine h_iconst dX11_shelf_7 ci_m1 ?_
      refine h_ireturn dX11_shelf_8 rfl ?_
      exact hB (fun z => b1 z.1)
  by_cases e_3 : w = nI 3
  · subst e_3
    show HV l mX11_shelf (dp + 2) 0 0 0 [some (.ref 0), some (.int x), some (.int (nI 3)), some (.int n), none, none, none] [] hSH I J (hRR lt tx) Q
    refine h_iload_n dX11_shelf_0 rfl ?_
    refine h_cS1 dX11_shelf_1 k4_72 oSX11_isShelf rfl ?_
    refine c_X11_isShelf (fun b1 => ?_) (fun b1 => ?_)
    · obtain ⟨s, hxs, -, hs3⟩ := rng_ex (by omega) (by omega) b1.1 b1.2
      subst hxs
      refine h_ifne (tgt := 9) dX11_shelf_4 rfl (fun _ => ?_) (fun c => absurd c (by decide))
      refine h_iload_n dX11_shelf_9 rfl ?_
      refine h_ifne (tgt := 25) dX11_shelf_10 rfl (fun _ => ?_) (fun c => absurd c (by decide))
      refine h_iconst dX11_shelf_25 ci_0 ?_
      refine h_istore dX11_shelf_26 (Nat.le_of_ble_eq_true rfl) ?_
      refine h_iload_n dX11_shelf_28 rfl ?_
      refine h_iconst dX11_shelf_29 ci_1 ?_
      refine h_icmpne (tgt := 45) dX11_shelf_30 rfl (fun _ => ?_) (fun c => absurd c (by decide))
      refine h_iconst dX11_shelf_45 ci_0 ?_
      refine h_istore dX11_shelf_46 (Nat.le_of_ble_eq_true rfl) ?_
      refine h_iload_n dX11_shelf_48 rfl ?_
      refine h_iconst dX11_shelf_49 ci_2 ?_
      refine h_icmpne (tgt := 64) dX11_shelf_50 rfl (fun _ => ?_) (fun c => absurd c (by decide))
      refine h_iconst dX11_shelf_64 ci_0 ?_
      refine h_istore dX11_shelf_65 (Nat.le_of_ble_eq_true rfl) ?_
      refine h_iload dX11_shelf_67 rfl ?_
      refine h_ifne (tgt := 89) dX11_shelf_69 rfl (fun c => absurd (by decide) c) (fun _ => ?_)
      refine h_iload dX11_shelf_72 rfl ?_
      refine h_ifne (tgt := 89) dX11_shelf_74 rfl (fun c => absurd (by decide) c) (fun _ => ?_)
      refine h_iload dX11_shelf_77 rfl ?_
      refine h_ifne (tgt := 89) dX11_shelf_79 rfl (fun c => absurd (by decide) c) (fun _ => ?_)
      refine h_iload_n dX11_shelf_82 rfl ?_
      refine h_iconst dX11_shelf_83 ci_3 ?_
      refine h_icmpeq (tgt := 89) dX11_shelf_84 rfl (fun _ => ?_) (fun c => absurd (by decide) c)
      refine h_aload_n dX11_shelf_89 rfl ?_
      refine h_getR dX11_shelf_90 f_X11_64_9 rfl rfl ?_
      refine h_iload_n dX11_shelf_93 rfl ?_
      refine h_iload_n dX11_shelf_94 rfl ?_
      refine h_iastN (j := s) dX11_shelf_95 rfl rfl (by omega) rfl ?_
      refine h_aload_n dX11_shelf_96 rfl ?_
      refine h_getR dX11_shelf_97 f_X11_67_9 rfl rfl ?_
      refine h_iload_n dX11_shelf_100 rfl ?_
      refine h_iload_n dX11_shelf_101 rfl ?_
      refine h_iastN (j := s) dX11_shelf_102 rfl rfl (by omega) rfl ?_
      refine h_iload dX11_shelf_103 rfl ?_
      refine h_ifeq (tgt := 114) dX11_shelf_105 rfl (fun _ => ?_) (fun c => absurd (by decide) c)
      refine h_iconst dX11_shelf_114 ci_1 ?_
      refine h_ireturn dX11_shelf_115 rfl ?_
      exact hO s rfl (by omega) (.inr (.inr rfl))
    · refine h_ifne (tgt := 9) dX11_shelf_4 rfl (fun c => absurd (by decide) c) (fun _ => ?_)
      refine h_iconst dX11_shelf_7 ci_m1 ?_
      refine h_ireturn dX11_shelf_8 rfl ?_
      exact hB (fun z => b1 z.1)
  show HV l mX11_shelf (dp + 2) 0 0 0 [some (.ref 0), some (.int x), some (.int w), some (.int n), none, none, none] [] hSH I J (hRR lt tx) Q
  refine h_iload_n dX11_shelf_0 rfl ?_
  refine h_cS1 dX11_shelf_1 k4_72 oSX11_isShelf rfl ?_
  refine c_X11_isShelf (fun b1 => ?_) (fun b1 => ?_)
  · obtain ⟨s, hxs, -, hs3⟩ := rng_ex (by omega) (by omega) b1.1 b1.2
    subst hxs
    refine h_ifne (tgt := 9) dX11_shelf_4 rfl (fun _ => ?_) (fun c => absurd c (by decide))
    refine h_iload_n dX11_shelf_9 rfl ?_
    refine h_ifne (tgt := 25) dX11_shelf_10 rfl (fun c_10 => ?_) (fun c_10 => ?_)
    · refine h_iconst dX11_shelf_25 ci_0 ?_
      refine h_istore dX11_shelf_26 (Nat.le_of_ble_eq_true rfl) ?_
      refine h_iload_n dX11_shelf_28 rfl ?_
      refine h_iconst dX11_shelf_29 ci_1 ?_
      refine h_icmpne (tgt := 45) dX11_shelf_30 rfl (fun c_30 => ?_) (fun c_30 => ?_)
      · refine h_iconst dX11_shelf_45 ci_0 ?_
        refine h_istore dX11_shelf_46 (Nat.le_of_ble_eq_true rfl) ?_
        refine h_iload_n dX11_shelf_48 rfl ?_
        refine h_iconst dX11_shelf_49 ci_2 ?_
        refine h_icmpne (tgt := 64) dX11_shelf_50 rfl (fun c_50 => ?_) (fun c_50 => ?_)
        · refine h_iconst dX11_shelf_64 ci_0 ?_
          refine h_istore dX11_shelf_65 (Nat.le_of_ble_eq_true rfl) ?_
          refine h_iload dX11_shelf_67 rfl ?_
          refine h_ifne (tgt := 89) dX11_shelf_69 rfl (fun c => absurd (by decide) c) (fun _ => ?_)
          refine h_iload dX11_shelf_72 rfl ?_
          refine h_ifne (tgt := 89) dX11_shelf_74 rfl (fun c => absurd (by decide) c) (fun _ => ?_)
          refine h_iload dX11_shelf_77 rfl ?_
          refine h_ifne (tgt := 89) dX11_shelf_79 rfl (fun c => absurd (by decide) c) (fun _ => ?_)
          refine h_iload_n dX11_shelf_82 rfl ?_
          refine h_iconst dX11_shelf_83 ci_3 ?_
          refine h_icmpeq (tgt := 89) dX11_shelf_84 rfl (fun c_84 => ?_) (fun c_84 => ?_)
          · exact absurd c_84 e_3
          · refine h_iconst dX11_shelf_87 ci_m1 ?_
            refine h_ireturn dX11_shelf_88 rfl ?_
            exact hB (fun z => by
              rcases z.2 with q | q | q | q
              · exact e_0 q.1
              · exact e_1 q.1
              · exact e_2 q.1
              · exact e_3 q)
        · exact absurd c_50 e_2
      · exact absurd c_30 e_1
    · exact absurd c_10 e_0
  · refine h_ifne (tgt := 9) dX11_shelf_4 rfl (fun c => absurd (by decide) c) (fun _ => ?_)
    refine h_iconst dX11_shelf_7 ci_m1 ?_
    refine h_ireturn dX11_shelf_8 rfl ?_
    exact hB (fun z => b1 z.1)
theorem r_shelf {l : Launch} {dp : Nat} {ns nl np ml nk nw : Nat} {pl fa fb sl pp pm ki fr tg wh bw : Nat → Nat} {rs sn : Nat → Int32} {fl : Nat → Bool} {qw : Nat → Nat → Nat → Nat → Bool} {I : hI} {J : hJ} {lt tx : Option Nat} {so : Nat → Int32} {si : Nat → Nat} {it : Nat → Nat → Int64} {x w n : Int32} {Q : hQ} (hG : rG I ns nl np ml nk nw pl fa fb sl pp pm ki fr tg wh bw rs sn fl qw) (hS : rSh I J so si it) (hB : ¬ (sh4 x ∧ thP nk np w n) → Q (some (.int (-1))) hSH I J (hRR lt tx)) (hO : ∀ s, x = nI s → s < 4 → ((w = nI 0 ∧ isIx n nk) ∨ (w = nI 1 ∧ isIx n np) ∨ w = nI 3) → Q (some (.int (nI 1))) hSH (upI (upI (upI I 107 s (if w = nI 3 then -1 else w)) 108 s n) 109 s (nI 0)) J (hRR lt tx)) (hM : ∀ s t, x = nI s → n = nI t → s < 4 → t < 4 → w = nI 2 → so t = -1 → Q (some (.int (nI 1))) hSH (upI (upI (upI I 107 s (-1)) 108 s (so t)) 109 s (nI (si t))) J (hRR lt tx)) (hR : ∀ s t, x = nI s → n = nI t → s < 4 → t < 4 → w = nI 2 → ¬ so t = -1 → Q (some (.int (nI 1))) hSH (upI (upI (upI I 107 s (nI 2)) 108 s (so t)) 109 s (nI (si t))) J (hRR lt tx)) : HC l mX12_shelf (dp + 3) 0 0 [.ref 82, .int x, .int w, .int n] hSH I J (hRR lt tx) Q := by
  refine HC.of (by decide +kernel) rfl (Nat.le_of_ble_eq_true rfl) ?_
  obtain ⟨hN, hw, ⟨hnp, hml, hnk, hpt, hsi⟩, ⟨hn8, hm2, hn24, hpW, hsW⟩, hL⟩ := id hG
  obtain ⟨hns, hnl, hpl, hlg⟩ := id hN
  obtain ⟨hn6, hl12, hW, hp99, hr99⟩ := id hw
  by_cases e_0 : w = nI 0
  · subst e_0
    show HV l mX12_shelf (dp + 3) 0 0 0 [some (.ref 82), some (.int x), some (.int (nI 0)), some (.int n)] [] hSH I J (hRR lt tx) Q
    refine h_iload_n dX12_shelf_0 rfl ?_
    refine h_cS1 dX12_shelf_1 k6_233 oSX12_isShelf rfl ?_
    refine c_X12_isShelf (fun b1 => ?_) (fun b1 => ?_)
    · obtain ⟨s, hxs, -, hs3⟩ := rng_ex (by omega) (by omega) b1.1 b1.2
      subst hxs
      refine h_ifeq (tgt := 16) dX12_shelf_4 rfl (fun c => absurd c (by decide)) (fun _ => ?_)
      refine h_aload_n dX12_shelf_7 rfl ?_
      refine h_iload_n dX12_shelf_8 rfl ?_
      refine h_iload_n dX12_shelf_9 rfl ?_
      refine h_cV2 dX12_shelf_10 k7_17 oVX12_isThing rfl rfl ?_
      refine r_isThing hG (fun b2 => ?_) (fun b2 => ?_)
      · have b3 : isIx n nk := by
          rcases b2 with q | q | q | q
          · exact q.2
          · exact absurd q.1 (by decide)
          · exact absurd q.1 (by decide)
          · exact absurd q (by decide)
        refine h_ifne (tgt := 18) dX12_shelf_13 rfl (fun _ => ?_) (fun c => absurd c (by decide))
        refine h_aload_n dX12_shelf_18 rfl ?_
        refine h_getR dX12_shelf_19 f_X12_84_10 rfl rfl ?_
        refine h_iload_n dX12_shelf_22 rfl ?_
        refine h_iload_n dX12_shelf_23 rfl ?_
        refine h_iconst dX12_shelf_24 ci_3 ?_
        refine h_icmpeq (tgt := 42) dX12_shelf_25 rfl (fun c => absurd c (by decide)) (fun _ => ?_)
        refine h_iload_n dX12_shelf_28 rfl ?_
        refine h_iconst dX12_shelf_29 ci_2 ?_
        refine h_icmpne (tgt := 46) dX12_shelf_30 rfl (fun _ => ?_) (fun c => absurd c (by decide))
        refine h_iload_n dX12_shelf_46 rfl ?_
        refine h_iastN (j := s) dX12_shelf_47 rfl rfl (by omega) rfl ?_
        refine h_aload_n dX12_shelf_48 rfl ?_
        refine h_getR dX12_shelf_49 f_X12_87_10 rfl rfl ?_
        refine h_iload_n dX12_shelf_52 rfl ?_
        refine h_iload_n dX12_shelf_53 rfl ?_
        refine h_iconst dX12_shelf_54 ci_2 ?_
        refine h_icmpne (tgt := 67) dX12_shelf_55 rfl (fun _ => ?_) (fun c => absurd c (by decide))
        refine h_iload_n dX12_shelf_67 rfl ?_
        refine h_iastN (j := s) dX12_shelf_68 rfl rfl (by omega) rfl ?_
        refine h_aload_n dX12_shelf_69 rfl ?_
        refine h_getR dX12_shelf_70 f_X12_90_10 rfl rfl ?_
        refine h_iload_n dX12_shelf_73 rfl ?_
        refine h_iload_n dX12_shelf_74 rfl ?_
        refine h_iconst dX12_shelf_75 ci_2 ?_
        refine h_icmpne (tgt := 88) dX12_shelf_76 rfl (fun _ => ?_) (fun c => absurd c (by decide))
        refine h_iconst dX12_shelf_88 ci_0 ?_
        refine h_iastN (j := s) dX12_shelf_89 rfl rfl (by omega) rfl ?_
        refine h_iconst dX12_shelf_90 ci_1 ?_
        refine h_ireturn dX12_shelf_91 rfl ?_
        have hq := hO s rfl (by omega) (.inl ⟨rfl, b3⟩)
        rw [if_neg (by decide)] at hq
        exact hq
      · refine h_ifne (tgt := 18) dX12_shelf_13 rfl (fun c => absurd (by decide) c) (fun _ => ?_)
        refine h_iconst dX12_shelf_16 ci_m1 ?_
        refine h_ireturn dX12_shelf_17 rfl ?_
        exact hB (fun z => b2 z.2)
    · refine h_ifeq (tgt := 16) dX12_shelf_4 rfl (fun _ => ?_) (fun c => absurd (by decide) c)
      refine h_iconst dX12_shelf_16 ci_m1 ?_
      refine h_ireturn dX12_shelf_17 rfl ?_
      exact hB (fun z => b1 z.1)
  by_cases e_1 : w = nI 1
  · subst e_1
    show HV l mX12_shelf (dp + 3) 0 0 0 [some (.ref 82), some (.int x), some (.int (nI 1)), some (.int n)] [] hSH I J (hRR lt tx) Q
    refine h_iload_n dX12_shelf_0 rfl ?_
    refine h_cS1 dX12_shelf_1 k6_233 oSX12_isShelf rfl ?_
    refine c_X12_isShelf (fun b1 => ?_) (fun b1 => ?_)
    · obtain ⟨s, hxs, -, hs3⟩ := rng_ex (by omega) (by omega) b1.1 b1.2
      subst hxs
      refine h_ifeq (tgt := 16) dX12_shelf_4 rfl (fun c => absurd c (by decide)) (fun _ => ?_)
      refine h_aload_n dX12_shelf_7 rfl ?_
      refine h_iload_n dX12_shelf_8 rfl ?_
      refine h_iload_n dX12_shelf_9 rfl ?_
      refine h_cV2 dX12_shelf_10 k7_17 oVX12_isThing rfl rfl ?_
      refine r_isThing hG (fun b2 => ?_) (fun b2 => ?_)
      · have b3 : isIx n np := by
          rcases b2 with q | q | q | q
          · exact absurd q.1 (by decide)
          · exact q.2
          · exact absurd q.1 (by decide)
          · exact absurd q (by decide)
        refine h_ifne (tgt := 18) dX12_shelf_13 rfl (fun _ => ?_) (fun c => absurd c (by decide))
        refine h_aload_n dX12_shelf_18 rfl ?_
        refine h_getR dX12_shelf_19 f_X12_84_10 rfl rfl ?_
        refine h_iload_n dX12_shelf_22 rfl ?_
        refine h_iload_n dX12_shelf_23 rfl ?_
        refine h_iconst dX12_shelf_24 ci_3 ?_
        refine h_icmpeq (tgt := 42) dX12_shelf_25 rfl (fun c => absurd c (by decide)) (fun _ => ?_)
        refine h_iload_n dX12_shelf_28 rfl ?_
        refine h_iconst dX12_shelf_29 ci_2 ?_
        refine h_icmpne (tgt := 46) dX12_shelf_30 rfl (fun _ => ?_) (fun c => absurd c (by decide))
        refine h_iload_n dX12_shelf_46 rfl ?_
        refine h_iastN (j := s) dX12_shelf_47 rfl rfl (by omega) rfl ?_
        refine h_aload_n dX12_shelf_48 rfl ?_
        refine h_getR dX12_shelf_49 f_X12_87_10 rfl rfl ?_
        refine h_iload_n dX12_shelf_52 rfl ?_
        refine h_iload_n dX12_shelf_53 rfl ?_
        refine h_iconst dX12_shelf_54 ci_2 ?_
        refine h_icmpne (tgt := 67) dX12_shelf_55 rfl (fun _ => ?_) (fun c => absurd c (by decide))
        refine h_iload_n dX12_shelf_67 rfl ?_
        refine h_iastN (j := s) dX12_shelf_68 rfl rfl (by omega) rfl ?_
        refine h_aload_n dX12_shelf_69 rfl ?_
        refine h_getR dX12_shelf_70 f_X12_90_10 rfl rfl ?_
        refine h_iload_n dX12_shelf_73 rfl ?_
        refine h_iload_n dX12_shelf_74 rfl ?_
        refine h_iconst dX12_shelf_75 ci_2 ?_
        refine h_icmpne (tgt := 88) dX12_shelf_76 rfl (fun _ => ?_) (fun c => absurd c (by decide))
        refine h_iconst dX12_shelf_88 ci_0 ?_
        refine h_iastN (j := s) dX12_shelf_89 rfl rfl (by omega) rfl ?_
        refine h_iconst dX12_shelf_90 ci_1 ?_
        refine h_ireturn dX12_shelf_91 rfl ?_
        have hq := hO s rfl (by omega) (.inr (.inl ⟨rfl, b3⟩))
        rw [if_neg (by decide)] at hq
        exact hq
      · refine h_ifne (tgt := 18) dX12_shelf_13 rfl (fun c => absurd (by decide) c) (fun _ => ?_)
        refine h_iconst dX12_shelf_16 ci_m1 ?_
        refine h_ireturn dX12_shelf_17 rfl ?_
        exact hB (fun z => b2 z.2)
    · refine h_ifeq (tgt := 16) dX12_shelf_4 rfl (fun _ => ?_) (fun c => absurd (by decide) c)
      refine h_iconst dX12_shelf_16 ci_m1 ?_
      refine h_ireturn dX12_shelf_17 rfl ?_
      exact hB (fun z => b1 z.1)
  by_cases e_2 : w = nI 2
  · subst e_2
    show HV l mX12_shelf (dp + 3) 0 0 0 [some (.ref 82), some (.int x), some (.int (nI 2)), some (.int n)] [] hSH I J (hRR lt tx) Q
    refine h_iload_n dX12_shelf_0 rfl ?_
    refine h_cS1 dX12_shelf_1 k6_233 oSX12_isShelf rfl ?_
    refine c_X12_isShelf (fun b1 => ?_) (fun b1 => ?_)
    · obtain ⟨s, hxs, -, hs3⟩ := rng_ex (by omega) (by omega) b1.1 b1.2
      subst hxs
      refine h_ifeq (tgt := 16) dX12_shelf_4 rfl (fun c => absurd c (by decide)) (fun _ => ?_)
      refine h_aload_n dX12_shelf_7 rfl ?_
      refine h_iload_n dX12_shelf_8 rfl ?_
      refine h_iload_n dX12_shelf_9 rfl ?_
      refine h_cV2 dX12_shelf_10 k7_17 oVX12_isThing rfl rfl ?_
      refine r_isThing hG (fun b2 => ?_) (fun b2 => ?_)
      · have b3 : sh4 n := by
          rcases b2 with q | q | q | q
          · exact absurd q.1 (by decide)
          · exact absurd q.1 (by decide)
          · exact q.2
          · exact absurd q (by decide)
        obtain ⟨t, rfl, -, ht3⟩ := rng_ex (by omega) (by omega) b3.1 b3.2
        obtain ⟨w1, w2, w3, w4, w5⟩ := hS t (by omega)
        refine h_ifne (tgt := 18) dX12_shelf_13 rfl (fun _ => ?_) (fun c => absurd c (by decide))
        refine h_aload_n dX12_shelf_18 rfl ?_
        refine h_getR dX12_shelf_19 f_X12_84_10 rfl rfl ?_
        refine h_iload_n dX12_shelf_22 rfl ?_
        refine h_iload_n dX12_shelf_23 rfl ?_
        refine h_iconst dX12_shelf_24 ci_3 ?_
        refine h_icmpeq (tgt := 42) dX12_shelf_25 rfl (fun c => absurd c (by decide)) (fun _ => ?_)
        refine h_iload_n dX12_shelf_28 rfl ?_
        refine h_iconst dX12_shelf_29 ci_2 ?_
        refine h_icmpne (tgt := 46) dX12_shelf_30 rfl (fun c => absurd (by decide) c) (fun _ => ?_)
        refine h_aload_n dX12_shelf_33 rfl ?_
        refine h_getR dX12_shelf_34 f_X12_74_10 rfl rfl ?_
        refine h_iload_n dX12_shelf_37 rfl ?_
        refine h_ialdN (j := t) dX12_shelf_38 rfl rfl (by omega) rfl w1 ?_
        refine h_ifge (tgt := 46) dX12_shelf_39 rfl (fun c_39 => ?_) (fun c_39 => ?_)
        · refine h_iload_n dX12_shelf_46 rfl ?_
          refine h_iastN (j := s) dX12_shelf_47 rfl rfl (by omega) rfl ?_
          refine h_aload_n dX12_shelf_48 rfl ?_
          refine h_getR dX12_shelf_49 f_X12_87_10 rfl rfl ?_
          refine h_iload_n dX12_shelf_52 rfl ?_
          refine h_iload_n dX12_shelf_53 rfl ?_
          refine h_iconst dX12_shelf_54 ci_2 ?_
          refine h_icmpne (tgt := 67) dX12_shelf_55 rfl (fun c => absurd (by decide) c) (fun _ => ?_)
          refine h_aload_n dX12_shelf_58 rfl ?_
          refine h_getR dX12_shelf_59 f_X12_74_10 rfl rfl ?_
          refine h_iload_n dX12_shelf_62 rfl ?_
          refine h_ialdN (j := t) dX12_shelf_63 rfl rfl (by omega) rfl w1 ?_
          refine h_goto (tgt := 68) dX12_shelf_64 rfl ?_
          refine h_iastN (j := s) dX12_shelf_68 rfl rfl (by omega) rfl ?_
          refine h_aload_n dX12_shelf_69 rfl ?_
          refine h_getR dX12_shelf_70 f_X12_90_10 rfl rfl ?_
          refine h_iload_n dX12_shelf_73 rfl ?_
          refine h_iload_n dX12_shelf_74 rfl ?_
          refine h_iconst dX12_shelf_75 ci_2 ?_
          refine h_icmpne (tgt := 88) dX12_shelf_76 rfl (fun c => absurd (by decide) c) (fun _ => ?_)
          refine h_aload_n dX12_shelf_79 rfl ?_
          refine h_getR dX12_shelf_80 f_X12_77_10 rfl rfl ?_
          refine h_iload_n dX12_shelf_83 rfl ?_
          refine h_ialdN (j := t) dX12_shelf_84 rfl rfl (by omega) rfl w2 ?_
          refine h_goto (tgt := 89) dX12_shelf_85 rfl ?_
          refine h_iastN (j := s) dX12_shelf_89 rfl rfl (by omega) rfl ?_
          refine h_iconst dX12_shelf_90 ci_1 ?_
          refine h_ireturn dX12_shelf_91 rfl ?_
          exact hR s t rfl rfl (by omega) (by omega) rfl ((soW_neg w4).mp c_39)
        · refine h_iconst dX12_shelf_42 ci_m1 ?_
          refine h_goto (tgt := 47) dX12_shelf_43 rfl ?_
          refine h_iastN (j := s) dX12_shelf_47 rfl rfl (by omega) rfl ?_
          refine h_aload_n dX12_shelf_48 rfl ?_
          refine h_getR dX12_shelf_49 f_X12_87_10 rfl rfl ?_
          refine h_iload_n dX12_shelf_52 rfl ?_
          refine h_iload_n dX12_shelf_53 rfl ?_
          refine h_iconst dX12_shelf_54 ci_2 ?_
          refine h_icmpne (tgt := 67) dX12_shelf_55 rfl (fun c => absurd (by decide) c) (fun _ => ?_)
          refine h_aload_n dX12_shelf_58 rfl ?_
          refine h_getR dX12_shelf_59 f_X12_74_10 rfl rfl ?_
          refine h_iload_n dX12_shelf_62 rfl ?_
          refine h_ialdN (j := t) dX12_shelf_63 rfl rfl (by omega) rfl w1 ?_
          refine h_goto (tgt := 68) dX12_shelf_64 rfl ?_
          refine h_iastN (j := s) dX12_shelf_68 rfl rfl (by omega) rfl ?_
          refine h_aload_n dX12_shelf_69 rfl ?_
          refine h_getR dX12_shelf_70 f_X12_90_10 rfl rfl ?_
          refine h_iload_n dX12_shelf_73 rfl ?_
          refine h_iload_n dX12_shelf_74 rfl ?_
          refine h_iconst dX12_shelf_75 ci_2 ?_
          refine h_icmpne (tgt := 88) dX12_shelf_76 rfl (fun c => absurd (by decide) c) (fun _ => ?_)
          refine h_aload_n dX12_shelf_79 rfl ?_
          refine h_getR dX12_shelf_80 f_X12_77_10 rfl rfl ?_
          refine h_iload_n dX12_shelf_83 rfl ?_
          refine h_ialdN (j := t) dX12_shelf_84 rfl rfl (by omega) rfl w2 ?_
          refine h_goto (tgt := 89) dX12_shelf_85 rfl ?_
          refine h_iastN (j := s) dX12_shelf_89 rfl rfl (by omega) rfl ?_
          refine h_iconst dX12_shelf_90 ci_1 ?_
          refine h_ireturn dX12_shelf_91 rfl ?_
          exact hM s t rfl rfl (by omega) (by omega) rfl (Classical.not_not.mp (fun z => c_39 ((soW_neg w4).mpr z)))
      · refine h_ifne (tgt := 18) dX12_shelf_13 rfl (fun c => absurd (by decide) c) (fun _ => ?_)
        refine h_iconst dX12_shelf_16 ci_m1 ?_
        refine h_ireturn dX12_shelf_17 rfl ?_
        exact hB (fun z => b2 z.2)
    · refine h_ifeq (tgt := 16) dX12_shelf_4 rfl (fun _ => ?_) (fun c => absurd (by decide) c)
      refine h_iconst dX12_shelf_16 ci_m1 ?_
      refine h_ireturn dX12_shelf_17 rfl ?_
      exact hB (fun z => b1 z.1)
  by_cases e_3 : w = nI 3
  · subst e_3
    show HV l mX12_shelf (dp + 3) 0 0 0 [some (.ref 82), some (.int x), some (.int (nI 3)), some (.int n)] [] hSH I J (hRR lt tx) Q
    refine h_iload_n dX12_shelf_0 rfl ?_
    refine h_cS1 dX12_shelf_1 k6_233 oSX12_isShelf rfl ?_
    refine c_X12_isShelf (fun b1 => ?_) (fun b1 => ?_)
    · obtain ⟨s, hxs, -, hs3⟩ := rng_ex (by omega) (by omega) b1.1 b1.2
      subst hxs
      refine h_ifeq (tgt := 16) dX12_shelf_4 rfl (fun c => absurd c (by decide)) (fun _ => ?_)
      refine h_aload_n dX12_shelf_7 rfl ?_
      refine h_iload_n dX12_shelf_8 rfl ?_
      refine h_iload_n dX12_shelf_9 rfl ?_
      refine h_cV2 dX12_shelf_10 k7_17 oVX12_isThing rfl rfl ?_
      refine r_isThing hG (fun b2 => ?_) (fun b2 => ?_)
      · refine h_ifne (tgt := 18) dX12_shelf_13 rfl (fun _ => ?_) (fun c => absurd c (by decide))
        refine h_aload_n dX12_shelf_18 rfl ?_
        refine h_getR dX12_shelf_19 f_X12_84_10 rfl rfl ?_
        refine h_iload_n dX12_shelf_22 rfl ?_
        refine h_iload_n dX12_shelf_23 rfl ?_
        refine h_iconst dX12_shelf_24 ci_3 ?_
        refine h_icmpeq (tgt := 42) dX12_shelf_25 rfl (fun _ => ?_) (fun c => absurd (by decide) c)
        refine h_iconst dX12_shelf_42 ci_m1 ?_
        refine h_goto (tgt := 47) dX12_shelf_43 rfl ?_
        refine h_iastN (j := s) dX12_shelf_47 rfl rfl (by omega) rfl ?_
        refine h_aload_n dX12_shelf_48 rfl ?_
        refine h_getR dX12_shelf_49 f_X12_87_10 rfl rfl ?_
        refine h_iload_n dX12_shelf_52 rfl ?_
        refine h_iload_n dX12_shelf_53 rfl ?_
        refine h_iconst dX12_shelf_54 ci_2 ?_
        refine h_icmpne (tgt := 67) dX12_shelf_55 rfl (fun _ => ?_) (fun c => absurd c (by decide))
        refine h_iload_n dX12_shelf_67 rfl ?_
        refine h_iastN (j := s) dX12_shelf_68 rfl rfl (by omega) rfl ?_
        refine h_aload_n dX12_shelf_69 rfl ?_
        refine h_getR dX12_shelf_70 f_X12_90_10 rfl rfl ?_
        refine h_iload_n dX12_shelf_73 rfl ?_
        refine h_iload_n dX12_shelf_74 rfl ?_
        refine h_iconst dX12_shelf_75 ci_2 ?_
        refine h_icmpne (tgt := 88) dX12_shelf_76 rfl (fun _ => ?_) (fun c => absurd c (by decide))
        refine h_iconst dX12_shelf_88 ci_0 ?_
        refine h_iastN (j := s) dX12_shelf_89 rfl rfl (by omega) rfl ?_
        refine h_iconst dX12_shelf_90 ci_1 ?_
        refine h_ireturn dX12_shelf_91 rfl ?_
        have hq := hO s rfl (by omega) (.inr (.inr rfl))
        rw [if_pos rfl] at hq
        exact hq
      · refine h_ifne (tgt := 18) dX12_shelf_13 rfl (fun c => absurd (by decide) c) (fun _ => ?_)
        refine h_iconst dX12_shelf_16 ci_m1 ?_
        refine h_ireturn dX12_shelf_17 rfl ?_
        exact hB (fun z => b2 z.2)
    · refine h_ifeq (tgt := 16) dX12_shelf_4 rfl (fun _ => ?_) (fun c => absurd (by decide) c)
      refine h_iconst dX12_shelf_16 ci_m1 ?_
      refine h_ireturn dX12_shelf_17 rfl ?_
      exact hB (fun z => b1 z.1)
  show HV l mX12_shelf (dp + 3) 0 0 0 [some (.ref 82), some (.int x), some (.int w), some (.int n)] [] hSH I J (hRR lt tx) Q
  refine h_iload_n dX12_shelf_0 rfl ?_
  refine h_cS1 dX12_shelf_1 k6_233 oSX12_isShelf rfl ?_
  refine c_X12_isShelf (fun b1 => ?_) (fun b1 => ?_)
  · obtain ⟨s, hxs, -, hs3⟩ := rng_ex (by omega) (by omega) b1.1 b1.2
    subst hxs
    refine h_ifeq (tgt := 16) dX12_shelf_4 rfl (fun c => absurd c (by decide)) (fun _ => ?_)
    refine h_aload_n dX12_shelf_7 rfl ?_
    refine h_iload_n dX12_shelf_8 rfl ?_
    refine h_iload_n dX12_shelf_9 rfl ?_
    refine h_cV2 dX12_shelf_10 k7_17 oVX12_isThing rfl rfl ?_
    refine r_isThing hG (fun b2 => ?_) (fun b2 => ?_)
    · exact absurd b2 (fun z => by
        rcases z with q | q | q | q
        · exact e_0 q.1
        · exact e_1 q.1
        · exact e_2 q.1
        · exact e_3 q)
    · refine h_ifne (tgt := 18) dX12_shelf_13 rfl (fun c => absurd (by decide) c) (fun _ => ?_)
      refine h_iconst dX12_shelf_16 ci_m1 ?_
      refine h_ireturn dX12_shelf_17 rfl ?_
      exact hB (fun z => b2 z.2)
  · refine h_ifeq (tgt := 16) dX12_shelf_4 rfl (fun _ => ?_) (fun c => absurd (by decide) c)
    refine h_iconst dX12_shelf_16 ci_m1 ?_
    refine h_ireturn dX12_shelf_17 rfl ?_
    exact hB (fun z => b1 z.1)
