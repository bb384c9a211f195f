theorem spc_ok {o : Option (Int32 × Int32)} (h : spc o = 0) : ∃ q, o = some q ∧ ¬ q.2 < q.1 := by
  cases o with
  | none => exact absurd h (by decide)
  | some q =>
    refine ⟨q, rfl, fun z => ?_⟩
    have h : (if q.2 < q.1 then (-4 : Int32) else nI 0) = 0 := h
    rw [if_pos z] at h
    exact absurd h (by decide)
theorem spc_is {o : Option (Int32 × Int32)} {q : Int32 × Int32} (h : o = some q) (hq : ¬ q.2 < q.1) : spc o = 0 := by
  rw [h]
  exact if_neg hq
theorem c_hides {l : Launch} {dp : Nat} {ns nl np ml nk nw : Nat} {pl fa fb sl pp pm ki fr tg wh bw : Nat → Nat} {rs sn : Nat → Int32} {fl : Nat → Bool} {qw : Nat → Nat → Nat → Nat → Bool} {I : hI} {J : hJ} {lt tx : Option Nat} {s p q : Nat} {Q : hQ} (hG : cG I ns nl np ml nk nw pl fa fb sl pp pm ki fr tg wh bw rs sn fl qw) (hs : s < ns) (hp : p < np) (hq : q < np) (hal : (∀ r, r < np → spA (spG (inS nl fa fb sl fr tg fl r (-9)) (loK nl np ml nw pl fa fb sl pp pm ki fr tg wh bw rs sn qw) (hiK nl np ml nw pl fa fb sl pp pm ki fr tg wh bw rs sn qw) nk) (I 25) (I 26) r ∧ I 27 r = spc (spG (inS nl fa fb sl fr tg fl r (-9)) (loK nl np ml nw pl fa fb sl pp pm ki fr tg wh bw rs sn qw) (hiK nl np ml nw pl fa fb sl pp pm ki fr tg wh bw rs sn qw) nk))) (h1 : (∃ a b, spG (inS nl fa fb sl fr tg fl p (-9)) (loK nl np ml nw pl fa fb sl pp pm ki fr tg wh bw rs sn qw) (hiK nl np ml nw pl fa fb sl pp pm ki fr tg wh bw rs sn qw) nk = some a ∧ ¬ a.2 < a.1 ∧ spG (inS nl fa fb sl fr tg fl q (-9)) (loK nl np ml nw pl fa fb sl pp pm ki fr tg wh bw rs sn qw) (hiK nl np ml nw pl fa fb sl pp pm ki fr tg wh bw rs sn qw) nk = some b ∧ ¬ b.2 < b.1 ∧ pl s < pp p ∧ pp p < pp q ∧ (b.2 - lvl fa fb sl rs nl s).toInt64 * (nI (aw (pl s) (pp p))).toInt64 < (a.1 - lvl fa fb sl rs nl s).toInt64 * (nI (aw (pl s) (pp q))).toInt64) → Q (some (.int (nI 1))) hSH I J (hRR lt tx)) (h0 : ¬ ((∃ a b, spG (inS nl fa fb sl fr tg fl p (-9)) (loK nl np ml nw pl fa fb sl pp pm ki fr tg wh bw rs sn qw) (hiK nl np ml nw pl fa fb sl pp pm ki fr tg wh bw rs sn qw) nk = some a ∧ ¬ a.2 < a.1 ∧ spG (inS nl fa fb sl fr tg fl q (-9)) (loK nl np ml nw pl fa fb sl pp pm ki fr tg wh bw rs sn qw) (hiK nl np ml nw pl fa fb sl pp pm ki fr tg wh bw rs sn qw) nk = some b ∧ ¬ b.2 < b.1 ∧ pl s < pp p ∧ pp p < pp q ∧ (b.2 - lvl fa fb sl rs nl s).toInt64 * (nI (aw (pl s) (pp p))).toInt64 < (a.1 - lvl fa fb sl rs nl s).toInt64 * (nI (aw (pl s) (pp q))).toInt64)) → Q (some (.int (nI 0))) hSH I J (hRR lt tx)) : HC l mX10_hides (dp + 2) 0 0 [.ref 1, .int (nI s), .int (nI p), .int (nI q)] hSH I J (hRR lt tx) Q := by
  refine HC.of (by decide +kernel) rfl (Nat.le_of_ble_eq_true rfl) ?_
  show HV l mX10_hides (dp + 2) 0 0 0 [some (.ref 1), some (.int (nI s)), some (.int (nI p)), some (.int (nI q)), none, none, none, none] [] hSH I J (hRR lt tx) Q
  obtain ⟨⟨hN, hdo, hla, hlv⟩, hw, ⟨hnp, hml, hnk, hpt, hsi, hbt⟩, ⟨hn8, hm2, hn24, hpW, hsW⟩, hL⟩ := id hG
  obtain ⟨hns, hnl, hpl, hlg⟩ := id hN
  obtain ⟨hn6, hl12, hW, hp99, hr99⟩ := id hw
  have q1 := hp99 s hs
  have q2 := hpW p hp
  have q3 := hpW q hq
  obtain ⟨al1, al2⟩ := hal p hp
  obtain ⟨ql1, ql2⟩ := hal q hq
  refine h_aload_n dX10_hides_0 rfl ?_
  refine h_getR dX10_hides_1 f_X10_66_8 rfl rfl ?_
  refine h_iload_n dX10_hides_4 rfl ?_
  refine h_ialdN (j := p) dX10_hides_5 rfl rfl (by omega) rfl al2 ?_
  refine h_ifne (tgt := 18) dX10_hides_6 rfl (fun c_6 => ?_) (fun c_6 => ?_)
  · refine h_iconst dX10_hides_18 ci_0 ?_
    refine h_zreturn dX10_hides_19 rfl (by decide) ?_
    exact h0 (by rintro ⟨a, b, z1, z2, -⟩; exact c_6 (spc_is z1 z2))
  · obtain ⟨a, ea, na⟩ := spc_ok c_6
    rw [ea] at al1
    refine h_aload_n dX10_hides_9 rfl ?_
    refine h_getR dX10_hides_10 f_X10_66_8 rfl rfl ?_
    refine h_iload_n dX10_hides_13 rfl ?_
    refine h_ialdN (j := q) dX10_hides_14 rfl rfl (by omega) rfl ql2 ?_
    refine h_ifeq (tgt := 20) dX10_hides_15 rfl (fun c_15 => ?_) (fun c_15 => ?_)
    · obtain ⟨b, eb, nb⟩ := spc_ok c_15
      rw [eb] at ql1
      refine h_aload_n dX10_hides_20 rfl ?_
      refine h_getR dX10_hides_21 f_X10_29_8 rfl rfl ?_
      refine h_iload_n dX10_hides_24 rfl ?_
      refine h_ialdN (j := p) dX10_hides_25 rfl rfl (by omega) rfl (hpt _ (by omega)).1 ?_
      refine h_aload_n dX10_hides_26 rfl ?_
      refine h_getR dX10_hides_27 f_X10_12_8 rfl rfl ?_
      refine h_getR dX10_hides_30 f_X10_69_5 rfl rfl ?_
      refine h_iload_n dX10_hides_33 rfl ?_
      refine h_ialdN (j := s) dX10_hides_34 rfl rfl (by omega) rfl (hpl _ (by omega)) ?_
      refine h_icmple (tgt := 53) dX10_hides_35 rfl (fun c_35 => ?_) (fun c_35 => ?_)
      · rw [nI_leI (by omega) (by omega)] at c_35
        refine h_iconst dX10_hides_53 ci_0 ?_
        refine h_zreturn dX10_hides_54 rfl (by decide) ?_
        exact h0 (by rintro ⟨a2, b2, -, -, -, -, z1, -⟩; omega)
      · rw [nI_leI (by omega) (by omega)] at c_35
        refine h_aload_n dX10_hides_38 rfl ?_
        refine h_getR dX10_hides_39 f_X10_29_8 rfl rfl ?_
        refine h_iload_n dX10_hides_42 rfl ?_
        refine h_ialdN (j := p) dX10_hides_43 rfl rfl (by omega) rfl (hpt _ (by omega)).1 ?_
        refine h_aload_n dX10_hides_44 rfl ?_
        refine h_getR dX10_hides_45 f_X10_29_8 rfl rfl ?_
        refine h_iload_n dX10_hides_48 rfl ?_
        refine h_ialdN (j := q) dX10_hides_49 rfl rfl (by omega) rfl (hpt _ (by omega)).1 ?_
        refine h_icmplt (tgt := 55) dX10_hides_50 rfl (fun c_50 => ?_) (fun c_50 => ?_)
        · rw [nI_ltI (by omega) (by omega)] at c_50
          refine h_aload_n dX10_hides_55 rfl ?_
          refine h_getR dX10_hides_56 f_X10_60_8 rfl rfl ?_
          refine h_iload_n dX10_hides_59 rfl ?_
          refine h_ialdN (j := p) dX10_hides_60 rfl rfl (by omega) rfl (show _ = a.1 from al1.1) ?_
          refine h_aload_n dX10_hides_61 rfl ?_
          refine h_getR dX10_hides_62 f_X10_12_8 rfl rfl ?_
          refine h_getR dX10_hides_65 f_X10_93_5 rfl rfl ?_
          refine h_iload_n dX10_hides_68 rfl ?_
          refine h_ialdN (j := s) dX10_hides_69 rfl rfl (by omega) rfl (hlv _ (by omega)) ?_
          refine h_isub dX10_hides_70 ?_
          refine h_i2l dX10_hides_71 ?_
          refine h_lstore dX10_hides_72 (Nat.le_of_ble_eq_true rfl) ?_
          refine h_aload_n dX10_hides_74 rfl ?_
          refine h_getR dX10_hides_75 f_X10_63_8 rfl rfl ?_
          refine h_iload_n dX10_hides_78 rfl ?_
          refine h_ialdN (j := q) dX10_hides_79 rfl rfl (by omega) rfl (show _ = b.2 from ql1.2) ?_
          refine h_aload_n dX10_hides_80 rfl ?_
          refine h_getR dX10_hides_81 f_X10_12_8 rfl rfl ?_
          refine h_getR dX10_hides_84 f_X10_93_5 rfl rfl ?_
          refine h_iload_n dX10_hides_87 rfl ?_
          refine h_ialdN (j := s) dX10_hides_88 rfl rfl (by omega) rfl (hlv _ (by omega)) ?_
          refine h_isub dX10_hides_89 ?_
          refine h_i2l dX10_hides_90 ?_
          refine h_lstore dX10_hides_91 (Nat.le_of_ble_eq_true rfl) ?_
          refine h_lload dX10_hides_93 rfl ?_
          refine h_aload_n dX10_hides_95 rfl ?_
          refine h_iload_n dX10_hides_96 rfl ?_
          refine h_iload_n dX10_hides_97 rfl ?_
          refine h_cV2 dX10_hides_98 k2_216 oVX10_away rfl rfl ?_
          refine c_away hG hs (by omega) ?_
          refine h_i2l dX10_hides_101 ?_
          refine h_lmul dX10_hides_102 ?_
          refine h_lload dX10_hides_103 rfl ?_
          refine h_aload_n dX10_hides_105 rfl ?_
          refine h_iload_n dX10_hides_106 rfl ?_
          refine h_iload_n dX10_hides_107 rfl ?_
          refine h_cV2 dX10_hides_108 k2_216 oVX10_away rfl rfl ?_
          refine c_away hG hs (by omega) ?_
          refine h_i2l dX10_hides_111 ?_
          refine h_lmul dX10_hides_112 ?_
          refine h_lcmp dX10_hides_113 ?_
          refine h_ifle (tgt := 121) dX10_hides_114 rfl (fun c_114 => ?_) (fun c_114 => ?_)
          · refine h_iconst dX10_hides_121 ci_0 ?_
            refine h_zreturn dX10_hides_122 rfl (by decide) ?_
            exact h0 (by
              rintro ⟨a2, b2, z1, -, z2, -, -, -, z3⟩
              rw [ea] at z1
              rw [eb] at z2
              cases z1
              cases z2
              exact (lg_le _ _).mp c_114 z3)
          · refine h_iconst dX10_hides_117 ci_1 ?_
            refine h_goto (tgt := 122) dX10_hides_118 rfl ?_
            refine h_zreturn dX10_hides_122 rfl (by decide) ?_
            exact h1 ⟨a, b, ea, na, eb, nb, by omega, c_50, by
              have := c_114
              rw [lg_le] at this
              exact Classical.not_not.mp this⟩
        · rw [nI_ltI (by omega) (by omega)] at c_50
          refine h_iconst dX10_hides_53 ci_0 ?_
          refine h_zreturn dX10_hides_54 rfl (by decide) ?_
          exact h0 (by rintro ⟨a2, b2, -, -, -, -, z1, z2, -⟩; omega)
    · refine h_iconst dX10_hides_18 ci_0 ?_
      refine h_zreturn dX10_hides_19 rfl (by decide) ?_
      exact h0 (by rintro ⟨a2, b, -, -, z1, z2, -⟩; exact c_15 (spc_is z1 z2))
theorem c_addPoint {l : Launch} {dp : Nat} {ns nl np ml nk nw : Nat} {pl fa fb sl pp pm ki fr tg wh bw : Nat → Nat} {rs sn : Nat → Int32} {fl : Nat → Bool} {qw : Nat → Nat → Nat → Nat → Bool} {I : hI} {J : hJ} {lt tx : Option Nat} {a m : Nat} {Q : hQ} (hG : cG I ns nl np ml nk nw pl fa fb sl pp pm ki fr tg wh bw rs sn fl qw) (h8 : np < 8) (hQ : Q (some (.int (nI np))) hSH (upI (upI (upI I 18 np (nI a)) 19 np (nI m)) 1 2 (nI (np + 1))) J (hRR lt tx)) : HC l mX10_addPoint dp 0 0 [.ref 1, .int (nI a), .int (nI m)] hSH I J (hRR lt tx) Q := by
  refine HC.of (by decide +kernel) rfl (Nat.le_of_ble_eq_true rfl) ?_
  show HV l mX10_addPoint dp 0 0 0 [some (.ref 1), some (.int (nI a)), some (.int (nI m))] [] hSH I J (hRR lt tx) Q
  obtain ⟨⟨hN, hdo, hla, hlv⟩, hw, ⟨hnp, hml, hnk, hpt, hsi, hbt⟩, ⟨hn8, hm2, hn24, hpW, hsW⟩, hL⟩ := id hG
  obtain ⟨hns, hnl, hpl, hlg⟩ := id hN
  obtain ⟨hn6, hl12, hW, hp99, hr99⟩ := id hw
  refine h_aload_n dX10_addPoint_0 rfl ?_
  refine h_getR dX10_addPoint_1 f_X10_29_8 rfl rfl ?_
  refine h_aload_n dX10_addPoint_4 rfl ?_
  refine h_getI dX10_addPoint_5 f_X10_25_8 rfl hnp ?_
  refine h_iload_n dX10_addPoint_8 rfl ?_
  refine h_iastN (j := np) dX10_addPoint_9 rfl rfl (by omega) rfl ?_
  refine h_aload_n dX10_addPoint_10 rfl ?_
  refine h_getR dX10_addPoint_11 f_X10_33_8 rfl rfl ?_
  refine h_aload_n dX10_addPoint_14 rfl ?_
  refine h_getI dX10_addPoint_15 f_X10_25_8 rfl hnp ?_
  refine h_iload_n dX10_addPoint_18 rfl ?_
  refine h_iastN (j := np) dX10_addPoint_19 rfl rfl (by omega) rfl ?_
  refine h_aload_n dX10_addPoint_20 rfl ?_
  refine h_dup dX10_addPoint_21 rfl ?_
  refine h_getI dX10_addPoint_22 f_X10_25_8 rfl hnp ?_
  refine h_iconst dX10_addPoint_25 ci_1 ?_
  refine h_iaddN dX10_addPoint_26 ?_
  refine h_putI dX10_addPoint_27 f_X10_25_8 p_X10_8_2 (fun h => by cases h) rfl ?_
  refine h_aload_n dX10_addPoint_30 rfl ?_
  refine h_getI dX10_addPoint_31 f_X10_25_8 rfl (show _ = nI (np + 1) from rfl) ?_
  refine h_iconst dX10_addPoint_34 ci_1 ?_
  refine h_isubN dX10_addPoint_35 (by omega) ?_
  refine h_ireturn dX10_addPoint_36 rfl ?_
  rw [Nat.add_sub_cancel]
  exact hQ
theorem c_addSight {l : Launch} {dp : Nat} {ns nl np ml nk nw : Nat} {pl fa fb sl pp pm ki fr tg wh bw : Nat → Nat} {rs sn : Nat → Int32} {fl : Nat → Bool} {qw : Nat → Nat → Nat → Nat → Bool} {I : hI} {J : hJ} {lt tx : Option Nat} {kn s p w : Nat} {x : Int32} {Q : hQ} (hG : cG I ns nl np ml nk nw pl fa fb sl pp pm ki fr tg wh bw rs sn fl qw) (h24 : nk < 24) (hQ : Q (some (.int (nI nk))) hSH (upI (upI (upI (upI (upI (upI (upI I 20 nk (nI kn)) 21 nk (nI s)) 22 nk (nI p)) 23 nk x) 24 nk (nI w)) 1 12 (I 1 12 &&& ((nI 1 <<< (nI nk &&& 31)) ^^^ -1))) 1 6 (nI (nk + 1))) J (hRR lt tx)) : HC l mX10_addSight dp 0 0 [.ref 1, .int (nI kn), .int (nI s), .int (nI p), .int x, .int (nI w)] hSH I J (hRR lt tx) Q := by
  refine HC.of (by decide +kernel) rfl (Nat.le_of_ble_eq_true rfl) ?_
  show HV l mX10_addSight dp 0 0 0 [some (.ref 1), some (.int (nI kn)), some (.int (nI s)), some (.int (nI p)), some (.int x), some (.int (nI w))] [] hSH I J (hRR lt tx) Q
  obtain ⟨⟨hN, hdo, hla, hlv⟩, hw, ⟨hnp, hml, hnk, hpt, hsi, hbt⟩, ⟨hn8, hm2, hn24, hpW, hsW⟩, hL⟩ := id hG
  obtain ⟨hns, hnl, hpl, hlg⟩ := id hN
  obtain ⟨hn6, hl12, hW, hp99, hr99⟩ := id hw
  refine h_aload_n dX10_addSight_0 rfl ?_
  refine h_getR dX10_addSight_1 f_X10_42_8 rfl rfl ?_
  refine h_aload_n dX10_addSight_4 rfl ?_
  refine h_getI dX10_addSight_5 f_X10_39_8 rfl hnk ?_
  refine h_iload_n dX10_addSight_8 rfl ?_
  refine h_iastN (j := nk) dX10_addSight_9 rfl rfl (by omega) rfl ?_
  refine h_aload_n dX10_addSight_10 rfl ?_
  refine h_getR dX10_addSight_11 f_X10_45_8 rfl rfl ?_
  refine h_aload_n dX10_addSight_14 rfl ?_
  refine h_getI dX10_addSight_15 f_X10_39_8 rfl hnk ?_
  refine h_iload_n dX10_addSight_18 rfl ?_
  refine h_iastN (j := nk) dX10_addSight_19 rfl rfl (by omega) rfl ?_
  refine h_aload_n dX10_addSight_20 rfl ?_
  refine h_getR dX10_addSight_21 f_X10_48_8 rfl rfl ?_
  refine h_aload_n dX10_addSight_24 rfl ?_
  refine h_getI dX10_addSight_25 f_X10_39_8 rfl hnk ?_
  refine h_iload_n dX10_addSight_28 rfl ?_
  refine h_iastN (j := nk) dX10_addSight_29 rfl rfl (by omega) rfl ?_
  refine h_aload_n dX10_addSight_30 rfl ?_
  refine h_getR dX10_addSight_31 f_X10_51_8 rfl rfl ?_
  refine h_aload_n dX10_addSight_34 rfl ?_
  refine h_getI dX10_addSight_35 f_X10_39_8 rfl hnk ?_
  refine h_iload dX10_addSight_38 rfl ?_
  refine h_iastN (j := nk) dX10_addSight_40 rfl rfl (by omega) rfl ?_
  refine h_aload_n dX10_addSight_41 rfl ?_
  refine h_getR dX10_addSight_42 f_X10_54_8 rfl rfl ?_
  refine h_aload_n dX10_addSight_45 rfl ?_
  refine h_getI dX10_addSight_46 f_X10_39_8 rfl hnk ?_
  refine h_iload dX10_addSight_49 rfl ?_
  refine h_iastN (j := nk) dX10_addSight_51 rfl rfl (by omega) rfl ?_
  refine h_aload_n dX10_addSight_52 rfl ?_
  refine h_dup dX10_addSight_53 rfl ?_
  refine h_getI dX10_addSight_54 f_X10_57_8 rfl (show _ = I 1 12 from rfl) ?_
  refine h_iconst dX10_addSight_57 ci_1 ?_
  refine h_aload_n dX10_addSight_58 rfl ?_
  refine h_getI dX10_addSight_59 f_X10_39_8 rfl hnk ?_
  refine h_ishl dX10_addSight_62 ?_
  refine h_iconst dX10_addSight_63 ci_m1 ?_
  refine h_ixor dX10_addSight_64 ?_
  refine h_iand dX10_addSight_65 ?_
  refine h_putI dX10_addSight_66 f_X10_57_8 p_X10_8_12 (fun h => by cases h) rfl ?_
  refine h_aload_n dX10_addSight_69 rfl ?_
  refine h_dup dX10_addSight_70 rfl ?_
  refine h_getI dX10_addSight_71 f_X10_39_8 rfl hnk ?_
  refine h_iconst dX10_addSight_74 ci_1 ?_
  refine h_iaddN dX10_addSight_75 ?_
  refine h_putI dX10_addSight_76 f_X10_39_8 p_X10_8_6 (fun h => by cases h) rfl ?_
  refine h_aload_n dX10_addSight_79 rfl ?_
  refine h_getI dX10_addSight_80 f_X10_39_8 rfl (show _ = nI (nk + 1) from rfl) ?_
  refine h_iconst dX10_addSight_83 ci_1 ?_
  refine h_isubN dX10_addSight_84 (by omega) ?_
  refine h_ireturn dX10_addSight_85 rfl ?_
  rw [Nat.add_sub_cancel]
  exact hQ
