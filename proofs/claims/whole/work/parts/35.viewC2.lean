theorem tol_le {bw : Nat → Nat} {qw : Nat → Nat → Nat → Nat → Bool} {ki aw wh : Nat} : ∀ n, (∀ c, c < n → bw c ≤ 99) → tol bw qw ki aw wh n ≤ 99
  | 0, _ => Nat.zero_le _
  | n + 1, h => by
    unfold tol
    by_cases e : qw n ki aw wh = true
    · rw [if_pos e]; exact h n (by omega)
    · rw [if_neg e]; exact tol_le n (fun c hc => h c (by omega))
theorem cL_le {I : hI} {B nw : Nat} {bw : Nat → Nat} {qw : Nat → Nat → Nat → Nat → Bool} (h : cL I B nw bw qw) {ki aw wh : Nat} : tol bw qw ki aw wh nw ≤ 99 := by
  obtain ⟨-, -, en, hen, -⟩ := h
  exact tol_le nw (fun c hc => (hen c hc).2.2.2)
theorem c_toldOf {l : Launch} {dp : Nat} {ns nl np ml nk nw : Nat} {pl fa fb sl pp pm ki fr tg wh bw : Nat → Nat} {rs sn : Nat → Int32} {fl : Nat → Bool} {qw : Nat → Nat → Nat → Nat → Bool} {I : hI} {J : hJ} {lt tx : Option Nat} {k : Nat} {Q : hQ} (hG : cG I ns nl np ml nk nw pl fa fb sl pp pm ki fr tg wh bw rs sn fl qw) (hk : k < nk) (hQ : Q (some (.int (nI (tol bw qw (ki k) (aw (pl (fr k)) (pp (tg k))) (wh k) nw)))) hSH I J (hRR lt tx)) : HC l mX10_toldOf (dp + 3) 0 0 [.ref 1, .int (nI k)] hSH I J (hRR lt tx) Q := by
  refine HC.of (by decide +kernel) rfl (Nat.le_of_ble_eq_true rfl) ?_
  show HV l mX10_toldOf (dp + 3) 0 0 0 [some (.ref 1), some (.int (nI k))] [] hSH I J (hRR lt tx) Q
  obtain ⟨⟨hN, hdo, hla, hlv⟩, hw, ⟨hnp, hml, hnk, hpt, hsi, hbt⟩, ⟨hn8, hm2, hn24, hpW, hsW⟩, hL⟩ := id hG
  obtain ⟨hns, hnl, hpl, hlg⟩ := id hN
  obtain ⟨hn6, hl12, hW, hp99, hr99⟩ := id hw
  have q1 := hsW k hk
  have q2 := hp99 (fr k) (by omega)
  have q3 := hpW (tg k) (by omega)
  have q4 := aw_le q2 q3.1
  refine h_aload_n dX10_toldOf_0 rfl ?_
  refine h_getR dX10_toldOf_1 f_X10_21_8 rfl rfl ?_
  refine h_aload_n dX10_toldOf_4 rfl ?_
  refine h_getR dX10_toldOf_5 f_X10_42_8 rfl rfl ?_
  refine h_iload_n dX10_toldOf_8 rfl ?_
  refine h_ialdN (j := k) dX10_toldOf_9 rfl rfl (by omega) rfl (hsi _ (by omega)).1 ?_
  refine h_aload_n dX10_toldOf_10 rfl ?_
  refine h_iload_n dX10_toldOf_11 rfl ?_
  refine h_cV1 dX10_toldOf_12 k3_48 oVX10_awayOf rfl rfl ?_
  refine c_awayOf hG hk ?_
  refine h_aload_n dX10_toldOf_15 rfl ?_
  refine h_getR dX10_toldOf_16 f_X10_54_8 rfl rfl ?_
  refine h_iload_n dX10_toldOf_19 rfl ?_
  refine h_ialdN (j := k) dX10_toldOf_20 rfl rfl (by omega) rfl (hsi _ (by omega)).2.2.2.2 ?_
  refine h_cV3 dX10_toldOf_21 k3_52 oVX3_told rfl rfl ?_
  refine c_told hL (by omega) (by omega) (by omega) ?_
  refine h_ireturn dX10_toldOf_24 rfl ?_
  exact hQ
theorem c_footFrom {l : Launch} {dp : Nat} {ns nl np ml nk nw : Nat} {pl fa fb sl pp pm ki fr tg wh bw : Nat → Nat} {rs sn : Nat → Int32} {fl : Nat → Bool} {qw : Nat → Nat → Nat → Nat → Bool} {I : hI} {J : hJ} {lt tx : Option Nat} {kn s p w : Nat} {x : Int32} {Q : hQ} (hG : cG I ns nl np ml nk nw pl fa fb sl pp pm ki fr tg wh bw rs sn fl qw) (hkn : kn ≤ 5) (hs : s < ns) (hp : p < np) (hw0 : w ≤ 2340) (hQ : Q (some (.int (ftS nl np ml nw pl fa fb sl pp pm bw rs qw s p kn x w))) hSH I J (hRR lt tx)) : HC l mX10_footFrom (dp + 3) 0 0 [.ref 1, .int (nI kn), .int (nI s), .int (nI p), .int x, .int (nI w)] hSH I J (hRR lt tx) Q := by
  refine HC.of (by decide +kernel) rfl (Nat.le_of_ble_eq_true rfl) ?_
  show HV l mX10_footFrom (dp + 3) 0 0 0 [some (.ref 1), some (.int (nI kn)), some (.int (nI s)), some (.int (nI p)), some (.int x), some (.int (nI w)), none, none, none] [] hSH I J (hRR lt tx) Q
  obtain ⟨⟨hN, hdo, hla, hlv⟩, hw, ⟨hnp, hml, hnk, hpt, hsi, hbt⟩, ⟨hn8, hm2, hn24, hpW, hsW⟩, hL⟩ := id hG
  obtain ⟨hns, hnl, hpl, hlg⟩ := id hN
  obtain ⟨hn6, hl12, hW, hp99, hr99⟩ := id hw
  have q2 := hp99 s hs
  have q3 := hpW p hp
  have q4 := aw_le q2 q3.1
  have q5 := aw_sq q2 q3.1
  have q6 := cL_le hL (ki := kn) (aw := aw (pl s) (pp p)) (wh := w)
  refine h_aload_n dX10_footFrom_0 rfl ?_
  refine h_iload_n dX10_footFrom_1 rfl ?_
  refine h_iload_n dX10_footFrom_2 rfl ?_
  refine h_cV2 dX10_footFrom_3 k2_216 oVX10_away rfl rfl ?_
  refine c_away hG hs hp ?_
  refine h_istore dX10_footFrom_6 (Nat.le_of_ble_eq_true rfl) ?_
  refine h_iload_n dX10_footFrom_8 rfl ?_
  refine h_aload_n dX10_footFrom_9 rfl ?_
  refine h_getR dX10_footFrom_10 f_X10_21_8 rfl rfl ?_
  refine h_iload_n dX10_footFrom_13 rfl ?_
  refine h_iload dX10_footFrom_14 rfl ?_
  refine h_iload dX10_footFrom_16 rfl ?_
  refine h_cV3 dX10_footFrom_18 k3_52 oVX3_told rfl rfl ?_
  refine c_told hL (by omega) (by omega) (by omega) ?_
  refine h_iload dX10_footFrom_21 rfl ?_
  refine h_cT3 dX10_footFrom_23 k3_93 oSX11_bendOf rfl ?_
  refine c_bendOf (by omega) (by omega) (by omega) ?_
  refine h_istore dX10_footFrom_26 (Nat.le_of_ble_eq_true rfl) ?_
  refine h_iload dX10_footFrom_28 rfl ?_
  refine h_iload dX10_footFrom_30 rfl ?_
  refine h_isub dX10_footFrom_32 ?_
  refine h_aload_n dX10_footFrom_33 rfl ?_
  refine h_iload_n dX10_footFrom_34 rfl ?_
  refine h_cV1 dX10_footFrom_35 k3_94 oVX10_lean rfl rfl ?_
  refine c_lean hG hs ?_
  refine h_isub dX10_footFrom_38 ?_
  refine h_istore dX10_footFrom_39 (Nat.le_of_ble_eq_true rfl) ?_
  refine h_aload_n dX10_footFrom_41 rfl ?_
  refine h_getR dX10_footFrom_42 f_X10_12_8 rfl rfl ?_
  refine h_getR dX10_footFrom_45 f_X10_93_5 rfl rfl ?_
  refine h_iload_n dX10_footFrom_48 rfl ?_
  refine h_ialdN (j := s) dX10_footFrom_49 rfl rfl (by omega) rfl (hlv _ (by omega)) ?_
  refine h_iload dX10_footFrom_50 rfl ?_
  refine h_iload dX10_footFrom_52 rfl ?_
  refine h_imul dX10_footFrom_54 ?_
  refine h_bipush dX10_footFrom_55 cb_10 ?_
  refine h_idiv dX10_footFrom_57 (by decide) ?_
  refine h_iadd dX10_footFrom_58 ?_
  refine h_iload dX10_footFrom_59 rfl ?_
  refine h_iload dX10_footFrom_61 rfl ?_
  refine h_imulN dX10_footFrom_63 ?_
  refine h_sipush dX10_footFrom_64 cs_200 ?_
  refine h_idivN dX10_footFrom_67 (by omega) (by omega) (by omega) ?_
  refine h_iadd dX10_footFrom_68 ?_
  refine h_ireturn dX10_footFrom_69 rfl ?_
  exact hQ
theorem c_reach0 {l : Launch} {dp : Nat} {ns nl np ml nk nw : Nat} {pl fa fb sl pp pm ki fr tg wh bw : Nat → Nat} {rs sn : Nat → Int32} {fl : Nat → Bool} {qw : Nat → Nat → Nat → Nat → Bool} {I : hI} {J : hJ} {lt tx : Option Nat} {kn s p : Nat} {Q : hQ} (hG : cG I ns nl np ml nk nw pl fa fb sl pp pm ki fr tg wh bw rs sn fl qw) (hkn : kn ≤ 5) (hs : s < ns) (hp : p < np) (hQ : Q (some (.int (nI (skF kn (aw (pl s) (pp p))) + enc (dist fa fb sl nl s)))) hSH I J (hRR lt tx)) : HC l mX10_reach (dp + 2) 0 0 [.ref 1, .int (nI kn), .int (nI s), .int (nI p)] hSH I J (hRR lt tx) Q := by
  refine HC.of (by decide +kernel) rfl (Nat.le_of_ble_eq_true rfl) ?_
  show HV l mX10_reach (dp + 2) 0 0 0 [some (.ref 1), some (.int (nI kn)), some (.int (nI s)), some (.int (nI p))] [] hSH I J (hRR lt tx) Q
  obtain ⟨⟨hN, hdo, hla, hlv⟩, hw, ⟨hnp, hml, hnk, hpt, hsi, hbt⟩, ⟨hn8, hm2, hn24, hpW, hsW⟩, hL⟩ := id hG
  obtain ⟨hns, hnl, hpl, hlg⟩ := id hN
  obtain ⟨hn6, hl12, hW, hp99, hr99⟩ := id hw
  have q2 := hp99 s hs
  have q3 := hpW p hp
  have q4 := aw_le q2 q3.1
  refine h_iload_n dX10_reach_0 rfl ?_
  refine h_aload_n dX10_reach_1 rfl ?_
  refine h_iload_n dX10_reach_2 rfl ?_
  refine h_iload_n dX10_reach_3 rfl ?_
  refine h_cV2 dX10_reach_4 k2_216 oVX10_away rfl rfl ?_
  refine c_away hG hs hp ?_
  refine h_cT2 dX10_reach_7 k3_103 oSX11_slackOf rfl ?_
  refine c_slackOf (by omega) (by omega) ?_
  refine h_aload_n dX10_reach_10 rfl ?_
  refine h_getR dX10_reach_11 f_X10_12_8 rfl rfl ?_
  refine h_getR dX10_reach_14 f_X10_99_5 rfl rfl ?_
  refine h_iload_n dX10_reach_17 rfl ?_
  refine h_ialdN (j := s) dX10_reach_18 rfl rfl (by omega) rfl (hdo _ (by omega)) ?_
  refine h_iadd dX10_reach_19 ?_
  refine h_ireturn dX10_reach_20 rfl ?_
  exact hQ
theorem c_reach {l : Launch} {dp : Nat} {ns nl np ml nk nw : Nat} {pl fa fb sl pp pm ki fr tg wh bw : Nat → Nat} {rs sn : Nat → Int32} {fl : Nat → Bool} {qw : Nat → Nat → Nat → Nat → Bool} {I : hI} {J : hJ} {lt tx : Option Nat} {Q : hQ} {kn s p : Nat} (hG : cG I ns nl np ml nk nw pl fa fb sl pp pm ki fr tg wh bw rs sn fl qw) (hkn : kn ≤ 5) (hs : s < ns) (hp : p < np) (hf : dist fa fb sl nl s < 1000000) (hQ : Q (some (.int (nI (rcS nl pl fa fb sl pp s p kn)))) hSH I J (hRR lt tx)) : HC l mX10_reach (dp + 2) 0 0 [.ref 1, .int (nI kn), .int (nI s), .int (nI p)] hSH I J (hRR lt tx) Q :=
  c_reach0 hG hkn hs hp (by rw [enc_lt hf, nI_add]; exact hQ)
theorem c_footOf {l : Launch} {dp : Nat} {ns nl np ml nk nw : Nat} {pl fa fb sl pp pm ki fr tg wh bw : Nat → Nat} {rs sn : Nat → Int32} {fl : Nat → Bool} {qw : Nat → Nat → Nat → Nat → Bool} {I : hI} {J : hJ} {lt tx : Option Nat} {k : Nat} {Q : hQ} (hG : cG I ns nl np ml nk nw pl fa fb sl pp pm ki fr tg wh bw rs sn fl qw) (hk : k < nk) (hQ : Q (some (.int (ftK nl np ml nw pl fa fb sl pp pm ki fr tg wh bw rs sn qw k))) hSH I J (hRR lt tx)) : HC l mX10_footOf (dp + 4) 0 0 [.ref 1, .int (nI k)] hSH I J (hRR lt tx) Q := by
  refine HC.of (by decide +kernel) rfl (Nat.le_of_ble_eq_true rfl) ?_
  show HV l mX10_footOf (dp + 4) 0 0 0 [some (.ref 1), some (.int (nI k))] [] hSH I J (hRR lt tx) Q
  obtain ⟨⟨hN, hdo, hla, hlv⟩, hw, ⟨hnp, hml, hnk, hpt, hsi, hbt⟩, ⟨hn8, hm2, hn24, hpW, hsW⟩, hL⟩ := id hG
  obtain ⟨hns, hnl, hpl, hlg⟩ := id hN
  obtain ⟨hn6, hl12, hW, hp99, hr99⟩ := id hw
  have q1 := hsW k hk
  refine h_aload_n dX10_footOf_0 rfl ?_
  refine h_aload_n dX10_footOf_1 rfl ?_
  refine h_getR dX10_footOf_2 f_X10_42_8 rfl rfl ?_
  refine h_iload_n dX10_footOf_5 rfl ?_
  refine h_ialdN (j := k) dX10_footOf_6 rfl rfl (by omega) rfl (hsi _ (by omega)).1 ?_
  refine h_aload_n dX10_footOf_7 rfl ?_
  refine h_getR dX10_footOf_8 f_X10_45_8 rfl rfl ?_
  refine h_iload_n dX10_footOf_11 rfl ?_
  refine h_ialdN (j := k) dX10_footOf_12 rfl rfl (by omega) rfl (hsi _ (by omega)).2.1 ?_
  refine h_aload_n dX10_footOf_13 rfl ?_
  refine h_getR dX10_footOf_14 f_X10_48_8 rfl rfl ?_
  refine h_iload_n dX10_footOf_17 rfl ?_
  refine h_ialdN (j := k) dX10_footOf_18 rfl rfl (by omega) rfl (hsi _ (by omega)).2.2.1 ?_
  refine h_aload_n dX10_footOf_19 rfl ?_
  refine h_getR dX10_footOf_20 f_X10_51_8 rfl rfl ?_
  refine h_iload_n dX10_footOf_23 rfl ?_
  refine h_ialdN (j := k) dX10_footOf_24 rfl rfl (by omega) rfl (hsi _ (by omega)).2.2.2.1 ?_
  refine h_aload_n dX10_footOf_25 rfl ?_
  refine h_getR dX10_footOf_26 f_X10_54_8 rfl rfl ?_
  refine h_iload_n dX10_footOf_29 rfl ?_
  refine h_ialdN (j := k) dX10_footOf_30 rfl rfl (by omega) rfl (hsi _ (by omega)).2.2.2.2 ?_
  refine h_cV5 dX10_footOf_31 k3_89 oVX10_footFrom rfl rfl ?_
  refine c_footFrom hG (by omega) (by omega) (by omega) (by omega) ?_
  refine h_ireturn dX10_footOf_34 rfl ?_
  exact hQ
theorem c_reachOf {l : Launch} {dp : Nat} {ns nl np ml nk nw : Nat} {pl fa fb sl pp pm ki fr tg wh bw : Nat → Nat} {rs sn : Nat → Int32} {fl : Nat → Bool} {qw : Nat → Nat → Nat → Nat → Bool} {I : hI} {J : hJ} {lt tx : Option Nat} {k : Nat} {Q : hQ} (hG : cG I ns nl np ml nk nw pl fa fb sl pp pm ki fr tg wh bw rs sn fl qw) (hk : k < nk) (hf : dist fa fb sl nl (fr k) < 1000000) (hQ : Q (some (.int (nI (rcK nl pl fa fb sl pp ki fr tg k)))) hSH I J (hRR lt tx)) : HC l mX10_reachOf (dp + 3) 0 0 [.ref 1, .int (nI k)] hSH I J (hRR lt tx) Q := by
  refine HC.of (by decide +kernel) rfl (Nat.le_of_ble_eq_true rfl) ?_
  show HV l mX10_reachOf (dp + 3) 0 0 0 [some (.ref 1), some (.int (nI k))] [] hSH I J (hRR lt tx) Q
  obtain ⟨⟨hN, hdo, hla, hlv⟩, hw, ⟨hnp, hml, hnk, hpt, hsi, hbt⟩, ⟨hn8, hm2, hn24, hpW, hsW⟩, hL⟩ := id hG
  obtain ⟨hns, hnl, hpl, hlg⟩ := id hN
  obtain ⟨hn6, hl12, hW, hp99, hr99⟩ := id hw
  have q1 := hsW k hk
  refine h_aload_n dX10_reachOf_0 rfl ?_
  refine h_aload_n dX10_reachOf_1 rfl ?_
  refine h_getR dX10_reachOf_2 f_X10_42_8 rfl rfl ?_
  refine h_iload_n dX10_reachOf_5 rfl ?_
  refine h_ialdN (j := k) dX10_reachOf_6 rfl rfl (by omega) rfl (hsi _ (by omega)).1 ?_
  refine h_aload_n dX10_reachOf_7 rfl ?_
  refine h_getR dX10_reachOf_8 f_X10_45_8 rfl rfl ?_
  refine h_iload_n dX10_reachOf_11 rfl ?_
  refine h_ialdN (j := k) dX10_reachOf_12 rfl rfl (by omega) rfl (hsi _ (by omega)).2.1 ?_
  refine h_aload_n dX10_reachOf_13 rfl ?_
  refine h_getR dX10_reachOf_14 f_X10_48_8 rfl rfl ?_
  refine h_iload_n dX10_reachOf_17 rfl ?_
  refine h_ialdN (j := k) dX10_reachOf_18 rfl rfl (by omega) rfl (hsi _ (by omega)).2.2.1 ?_
  refine h_cV3 dX10_reachOf_19 k3_99 oVX10_reach rfl rfl ?_
  refine c_reach hG (by omega) (by omega) (by omega) hf ?_
  refine h_ireturn dX10_reachOf_22 rfl ?_
  exact hQ
theorem c_isFalse {l : Launch} {dp : Nat} {ns nl np ml nk nw : Nat} {pl fa fb sl pp pm ki fr tg wh bw : Nat → Nat} {rs sn : Nat → Int32} {fl : Nat → Bool} {qw : Nat → Nat → Nat → Nat → Bool} {I : hI} {J : hJ} {lt tx : Option Nat} {k : Nat} {Q : hQ} (hG : cG I ns nl np ml nk nw pl fa fb sl pp pm ki fr tg wh bw rs sn fl qw) (hk : k < nk) (h1 : (fl k = false) → Q (some (.int (nI 1))) hSH I J (hRR lt tx)) (h0 : ¬ ((fl k = false)) → Q (some (.int (nI 0))) hSH I J (hRR lt tx)) : HC l mX10_isFalse dp 0 0 [.ref 1, .int (nI k)] hSH I J (hRR lt tx) Q := by
  refine HC.of (by decide +kernel) rfl (Nat.le_of_ble_eq_true rfl) ?_
  show HV l mX10_isFalse dp 0 0 0 [some (.ref 1), some (.int (nI k))] [] hSH I J (hRR lt tx) Q
  obtain ⟨⟨hN, hdo, hla, hlv⟩, hw, ⟨hnp, hml, hnk, hpt, hsi, hbt⟩, ⟨hn8, hm2, hn24, hpW, hsW⟩, hL⟩ := id hG
  obtain ⟨hns, hnl, hpl, hlg⟩ := id hN
  obtain ⟨hn6, hl12, hW, hp99, hr99⟩ := id hw
  refine h_aload_n dX10_isFalse_0 rfl ?_
  refine h_getI dX10_isFalse_1 f_X10_57_8 rfl rfl ?_
  refine h_iload_n dX10_isFalse_4 rfl ?_
  refine h_ishr dX10_isFalse_5 ?_
  refine h_iconst dX10_isFalse_6 ci_1 ?_
  refine h_iand dX10_isFalse_7 ?_
  refine h_iconst dX10_isFalse_8 ci_1 ?_
  refine h_icmpne (tgt := 16) dX10_isFalse_9 rfl (fun c_9 => ?_) (fun c_9 => ?_)
  · refine h_iconst dX10_isFalse_16 ci_0 ?_
    refine h_zreturn dX10_isFalse_17 rfl (by decide) ?_
    exact h0 (fun z => c_9 ((hbt k hk).mpr z))
  · refine h_iconst dX10_isFalse_12 ci_1 ?_
    refine h_goto (tgt := 17) dX10_isFalse_13 rfl ?_
    refine h_zreturn dX10_isFalse_17 rfl (by decide) ?_
    exact h1 ((hbt k hk).mp c_9)
theorem c_counts {l : Launch} {dp : Nat} {ns nl np ml nk nw : Nat} {pl fa fb sl pp pm ki fr tg wh bw : Nat → Nat} {rs sn : Nat → Int32} {fl : Nat → Bool} {qw : Nat → Nat → Nat → Nat → Bool} {I : hI} {J : hJ} {lt tx : Option Nat} {k : Nat} {Q : hQ} (hG : cG I ns nl np ml nk nw pl fa fb sl pp pm ki fr tg wh bw rs sn fl qw) (hk : k < nk) (h1 : (cnK nl fa fb sl fr fl k = true) → Q (some (.int (nI 1))) hSH I J (hRR lt tx)) (h0 : ¬ ((cnK nl fa fb sl fr fl k = true)) → Q (some (.int (nI 0))) hSH I J (hRR lt tx)) : HC l mX10_counts (dp + 1) 0 0 [.ref 1, .int (nI k)] hSH I J (hRR lt tx) Q := by
  refine HC.of (by decide +kernel) rfl (Nat.le_of_ble_eq_true rfl) ?_
  show HV l mX10_counts (dp + 1) 0 0 0 [some (.ref 1), some (.int (nI k))] [] hSH I J (hRR lt tx) Q
  obtain ⟨⟨hN, hdo, hla, hlv⟩, hw, ⟨hnp, hml, hnk, hpt, hsi, hbt⟩, ⟨hn8, hm2, hn24, hpW, hsW⟩, hL⟩ := id hG
  obtain ⟨hns, hnl, hpl, hlg⟩ := id hN
  obtain ⟨hn6, hl12, hW, hp99, hr99⟩ := id hw
  have q1 := hsW k hk
  refine h_aload_n dX10_counts_0 rfl ?_
  refine h_iload_n dX10_counts_1 rfl ?_
  refine h_cV1 dX10_counts_2 k3_116 oVX10_isFalse rfl rfl ?_
  refine c_isFalse hG hk (fun b1 => ?_) (fun b1 => ?_)
  · refine h_ifne (tgt := 28) dX10_counts_5 rfl (fun _ => ?_) (fun c => absurd c (by decide))
    refine h_iconst dX10_counts_28 ci_0 ?_
    refine h_zreturn dX10_counts_29 rfl (by decide) ?_
    exact h0 (by unfold cnK; simp [b1])
  · refine h_ifne (tgt := 28) dX10_counts_5 rfl (fun c => absurd (by decide) c) (fun _ => ?_)
    refine h_aload_n dX10_counts_8 rfl ?_
    refine h_getR dX10_counts_9 f_X10_12_8 rfl rfl ?_
    refine h_aload_n dX10_counts_12 rfl ?_
    refine h_getR dX10_counts_13 f_X10_45_8 rfl rfl ?_
    refine h_iload_n dX10_counts_16 rfl ?_
    refine h_ialdN (j := k) dX10_counts_17 rfl rfl (by omega) rfl (hsi _ (by omega)).2.1 ?_
    refine h_cV1 dX10_counts_18 k3_117 oVX5_hasLevel rfl rfl ?_
    refine c_hasLevelN (f := dist fa fb sl nl) hns hn6 hdo (by omega) (fun b2 => ?_) (fun b2 => ?_)
    · refine h_ifeq (tgt := 28) dX10_counts_21 rfl (fun c => absurd c (by decide)) (fun _ => ?_)
      refine h_iconst dX10_counts_24 ci_1 ?_
      refine h_goto (tgt := 29) dX10_counts_25 rfl ?_
      refine h_zreturn dX10_counts_29 rfl (by decide) ?_
      exact h1 (by unfold cnK; simp [b2]; simpa using b1)
    · refine h_ifeq (tgt := 28) dX10_counts_21 rfl (fun _ => ?_) (fun c => absurd (by decide) c)
      refine h_iconst dX10_counts_28 ci_0 ?_
      refine h_zreturn dX10_counts_29 rfl (by decide) ?_
      exact h0 (by unfold cnK; simp [b2])
def cntK (P : Nat → Bool) : Nat → Nat
  | 0 => 0
  | k + 1 => if P k = true then cntK P k + 1 else cntK P k
theorem c_countedSights {l : Launch} {dp : Nat} {ns nl np ml nk nw : Nat} {pl fa fb sl pp pm ki fr tg wh bw : Nat → Nat} {rs sn : Nat → Int32} {fl : Nat → Bool} {qw : Nat → Nat → Nat → Nat → Bool} {I : hI} {J : hJ} {lt tx : Option Nat} {Q : hQ} (hG : cG I ns nl np ml nk nw pl fa fb sl pp pm ki fr tg wh bw rs sn fl qw) (hQ : Q (some (.int (nI (cntK (cnK nl fa fb sl fr fl) nk)))) hSH I J (hRR lt tx)) : HC l mX10_countedSights (dp + 2) 0 0 [.ref 1] hSH I J (hRR lt tx) Q := by
  refine HC.of (by decide +kernel) rfl (Nat.le_of_ble_eq_true rfl) ?_
  obtain ⟨⟨hN, hdo, hla, hlv⟩, hw, ⟨hnp, hml, hnk, hpt, hsi, hbt⟩, ⟨hn8, hm2, hn24, hpW, hsW⟩, hL⟩ := id hG
  obtain ⟨hns, hnl, hpl, hlg⟩ := id hN
  obtain ⟨hn6, hl12, hW, hp99, hr99⟩ := id hw
  have Lo : ∀ (m k v : Nat), nk - k < m → k ≤ nk → v = cntK (cnK nl fa fb sl fr fl) k → HV l mX10_countedSights (dp + 2) 0 0 4 [some (.ref 1), some (.int (nI v)), some (.int (nI k))] [] hSH I J (hRR lt tx) Q := by
    intro m
    induction m with
    | zero => intro k v h1 h2 hv; omega
    | succ m ih =>
      intro k v h1 h2 hv
      refine h_iload_n dX10_countedSights_4 rfl ?_
      refine h_aload_n dX10_countedSights_5 rfl ?_
      refine h_getI dX10_countedSights_6 f_X10_39_8 rfl hnk ?_
      refine h_icmpge (tgt := 29) dX10_countedSights_9 rfl (fun c_9 => ?_) (fun c_9 => ?_)
      · rw [nI_leI (by omega) (by omega)] at c_9
        refine h_iload_n dX10_countedSights_29 rfl ?_
        refine h_ireturn dX10_countedSights_30 rfl ?_
        have ek : k = nk := by omega
        subst ek
        rw [hv]
        exact hQ
      · rw [nI_leI (by omega) (by omega)] at c_9
        refine h_aload_n dX10_countedSights_12 rfl ?_
        refine h_iload_n dX10_countedSights_13 rfl ?_
        refine h_cV1 dX10_countedSights_14 k3_112 oVX10_counts rfl rfl ?_
        refine c_counts hG (by omega) (fun b1 => ?_) (fun b1 => ?_)
        · refine h_ifeq (tgt := 23) dX10_countedSights_17 rfl (fun c => absurd c (by decide)) (fun _ => ?_)
          refine h_iinc (v := nI (v + 1)) dX10_countedSights_20 rfl (nI_1 _) (Nat.le_of_ble_eq_true rfl) ?_
          refine h_iinc (v := nI (k + 1)) dX10_countedSights_23 rfl (nI_1 _) (Nat.le_of_ble_eq_true rfl) ?_
          refine h_goto (tgt := 4) dX10_countedSights_26 rfl ?_
          exact ih (k + 1) _ (by omega) (by omega) (by rw [hv]; show _ = if _ then _ else _; rw [if_pos b1])
        · refine h_ifeq (tgt := 23) dX10_countedSights_17 rfl (fun _ => ?_) (fun c => absurd (by decide) c)
          refine h_iinc (v := nI (k + 1)) dX10_countedSights_23 rfl (nI_1 _) (Nat.le_of_ble_eq_true rfl) ?_
          refine h_goto (tgt := 4) dX10_countedSights_26 rfl ?_
          exact ih (k + 1) _ (by omega) (by omega) (by rw [hv]; show _ = if _ then _ else _; rw [if_neg b1])
  show HV l mX10_countedSights (dp + 2) 0 0 0 [some (.ref 1), none, none] [] hSH I J (hRR lt tx) Q
  refine h_iconst dX10_countedSights_0 ci_0 ?_
  refine h_istore_n dX10_countedSights_1 (Nat.le_of_ble_eq_true rfl) ?_
  refine h_iconst dX10_countedSights_2 ci_0 ?_
  refine h_istore_n dX10_countedSights_3 (Nat.le_of_ble_eq_true rfl) ?_
  exact Lo (nk + 1) 0 0 (by omega) (by omega) rfl
/-- rows g1, g2 hold a span at p -/
def spA (o : Option (Int32 × Int32)) (g1 g2 : Nat → Int32) (p : Nat) : Prop := match o with
  | none => True
  | some q => g1 p = q.1 ∧ g2 p = q.2
def spn (o : Option (Int32 × Int32)) : Int32 := match o with
  | none => -3
  | some _ => nI 0
theorem c_measure {l : Launch} {dp : Nat} {ns nl np ml nk nw : Nat} {pl fa fb sl pp pm ki fr tg wh bw : Nat → Nat} {rs sn : Nat → Int32} {fl : Nat → Bool} {qw : Nat → Nat → Nat → Nat → Bool} {I : hI} {J : hJ} {lt tx : Option Nat} {p : Nat} {e : Int32} {Q : hQ} (hG : cG I ns nl np ml nk nw pl fa fb sl pp pm ki fr tg wh bw rs sn fl qw) (hp : p < np) (hQ : ∀ g1 g2 g3, spA (spG (inS nl fa fb sl fr tg fl p e) (loK nl np ml nw pl fa fb sl pp pm ki fr tg wh bw rs sn qw) (hiK nl np ml nw pl fa fb sl pp pm ki fr tg wh bw rs sn qw) nk) g1 g2 p → (∀ q, q ≠ p → g1 q = I 25 q ∧ g2 q = I 26 q ∧ g3 q = I 27 q) → g3 p = spc (spG (inS nl fa fb sl fr tg fl p e) (loK nl np ml nw pl fa fb sl pp pm ki fr tg wh bw rs sn qw) (hiK nl np ml nw pl fa fb sl pp pm ki fr tg wh bw rs sn qw) nk) → Q (some (.int (spc (spG (inS nl fa fb sl fr tg fl p e) (loK nl np ml nw pl fa fb sl pp pm ki fr tg wh bw rs sn qw) (hiK nl np ml nw pl fa fb sl pp pm ki fr tg wh bw rs sn qw) nk)))) hSH (upA (upA (upA I 25 g1) 26 g2) 27 g3) J (hRR lt tx)) : HC l mX10_measure (dp + 5) 0 0 [.ref 1, .int (nI p), .int e] hSH I J (hRR lt tx) Q := by
  refine HC.of (by decide +kernel) rfl (Nat.le_of_ble_eq_true rfl) ?_
  obtain ⟨⟨hN, hdo, hla, hlv⟩, hw, ⟨hnp, hml, hnk, hpt, hsi, hbt⟩, ⟨hn8, hm2, hn24, hpW, hsW⟩, hL⟩ := id hG
  obtain ⟨hns, hnl, hpl, hlg⟩ := id hN
  obtain ⟨hn6, hl12, hW, hp99, hr99⟩ := id hw
  have Lo : ∀ (m k : Nat) (g1 g2 : Nat → Int32), nk - k < m → k ≤ nk → spA (spG (inS nl fa fb sl fr tg fl p e) (loK nl np ml nw pl fa fb sl pp pm ki fr tg wh bw rs sn qw) (hiK nl np ml nw pl fa fb sl pp pm ki fr tg wh bw rs sn qw) k) g1 g2 p → (∀ q, q ≠ p → g1 q = I 25 q ∧ g2 q = I 26 q) → ∀ z5 z6, HV l mX10_measure (dp + 5) 0 0 6 [some (.ref 1), some (.int (nI p)), some (.int e), some (.int (spn (spG (inS nl fa fb sl fr tg fl p e) (loK nl np ml nw pl fa fb sl pp pm ki fr tg wh bw rs sn qw) (hiK nl np ml nw pl fa fb sl pp pm ki fr tg wh bw rs sn qw) k))), some (.int (nI k)), z5, z6] [] hSH (upA (upA I 25 g1) 26 g2) J (hRR lt tx) Q := by
    intro m
    induction m with
    | zero => intro k g1 g2 h1 h2 hs hf z5 z6; omega
    | succ m ih =>
      intro k g1 g2 h1 h2 hs hf z5 z6
      refine h_iload dX10_measure_6 rfl ?_
      refine h_aload_n dX10_measure_8 rfl ?_
      refine h_getI dX10_measure_9 f_X10_39_8 rfl hnk ?_
      refine h_icmpge (tgt := 136) dX10_measure_12 rfl (fun c_12 => ?_) (fun c_12 => ?_)
      · rw [nI_leI (by omega) (by omega)] at c_12
        have ek : nk = k := by omega
        subst ek
        have hs0 := hs
        refine h_iload_n dX10_measure_136 rfl ?_
        refine h_ifne (tgt := 158) dX10_measure_137 rfl (fun c_137 => ?_) (fun c_137 => ?_)
        · have hsn : spG (inS nl fa fb sl fr tg fl p e) (loK nl np ml nw pl fa fb sl pp pm ki fr tg wh bw rs sn qw) (hiK nl np ml nw pl fa fb sl pp pm ki fr tg wh bw rs sn qw) nk = none := by
            cases e0 : spG (inS nl fa fb sl fr tg fl p e) (loK nl np ml nw pl fa fb sl pp pm ki fr tg wh bw rs sn qw) (hiK nl np ml nw pl fa fb sl pp pm ki fr tg wh bw rs sn qw) nk with
            | none => rfl
            | some q => rw [e0] at c_137; exact absurd rfl c_137
          refine h_aload_n dX10_measure_158 rfl ?_
          refine h_getR dX10_measure_159 f_X10_66_8 rfl rfl ?_
          refine h_iload_n dX10_measure_162 rfl ?_
          refine h_iload_n dX10_measure_163 rfl ?_
          refine h_iastN (j := p) dX10_measure_164 rfl rfl (by omega) rfl ?_
          refine h_iload_n dX10_measure_165 rfl ?_
          refine h_ireturn dX10_measure_166 rfl ?_
          have ev : spn (spG (inS nl fa fb sl fr tg fl p e) (loK nl np ml nw pl fa fb sl pp pm ki fr tg wh bw rs sn qw) (hiK nl np ml nw pl fa fb sl pp pm ki fr tg wh bw rs sn qw) nk) = spc (spG (inS nl fa fb sl fr tg fl p e) (loK nl np ml nw pl fa fb sl pp pm ki fr tg wh bw rs sn qw) (hiK nl np ml nw pl fa fb sl pp pm ki fr tg wh bw rs sn qw) nk) := by rw [hsn]; rfl
          have h4 := hQ g1 g2 (upd (I 27) p (spn (spG (inS nl fa fb sl fr tg fl p e) (loK nl np ml nw pl fa fb sl pp pm ki fr tg wh bw rs sn qw) (hiK nl np ml nw pl fa fb sl pp pm ki fr tg wh bw rs sn qw) nk))) hs0 (fun q hq => ⟨(hf q hq).1, (hf q hq).2, upd_n _ _ hq⟩) (by rw [upd_s]; exact ev)
          rw [← ev] at h4
          exact h4
        · obtain ⟨q, hsn⟩ : ∃ q, spG (inS nl fa fb sl fr tg fl p e) (loK nl np ml nw pl fa fb sl pp pm ki fr tg wh bw rs sn qw) (hiK nl np ml nw pl fa fb sl pp pm ki fr tg wh bw rs sn qw) nk = some q := by
            cases e0 : spG (inS nl fa fb sl fr tg fl p e) (loK nl np ml nw pl fa fb sl pp pm ki fr tg wh bw rs sn qw) (hiK nl np ml nw pl fa fb sl pp pm ki fr tg wh bw rs sn qw) nk with
            | none => rw [e0] at c_137; exact absurd c_137 (by decide)
            | some q => exact ⟨q, rfl⟩
          rw [hsn] at hs
          refine h_aload_n dX10_measure_140 rfl ?_
          refine h_getR dX10_measure_141 f_X10_60_8 rfl rfl ?_
          refine h_iload_n dX10_measure_144 rfl ?_
          refine h_ialdN (j := p) dX10_measure_145 rfl rfl (by omega) rfl (show _ = g1 p from rfl) ?_
          refine h_aload_n dX10_measure_146 rfl ?_
          refine h_getR dX10_measure_147 f_X10_63_8 rfl rfl ?_
          refine h_iload_n dX10_measure_150 rfl ?_
          refine h_ialdN (j := p) dX10_measure_151 rfl rfl (by omega) rfl (show _ = g2 p from rfl) ?_
          refine h_icmple (tgt := 158) dX10_measure_152 rfl (fun c_152 => ?_) (fun c_152 => ?_)
          · refine h_aload_n dX10_measure_158 rfl ?_
            refine h_getR dX10_measure_159 f_X10_66_8 rfl rfl ?_
            refine h_iload_n dX10_measure_162 rfl ?_
            refine h_iload_n dX10_measure_163 rfl ?_
            refine h_iastN (j := p) dX10_measure_164 rfl rfl (by omega) rfl ?_
            refine h_iload_n dX10_measure_165 rfl ?_
            refine h_ireturn dX10_measure_166 rfl ?_
            have ev : spn (spG (inS nl fa fb sl fr tg fl p e) (loK nl np ml nw pl fa fb sl pp pm ki fr tg wh bw rs sn qw) (hiK nl np ml nw pl fa fb sl pp pm ki fr tg wh bw rs sn qw) nk) = spc (spG (inS nl fa fb sl fr tg fl p e) (loK nl np ml nw pl fa fb sl pp pm ki fr tg wh bw rs sn qw) (hiK nl np ml nw pl fa fb sl pp pm ki fr tg wh bw rs sn qw) nk) := by rw [hsn]; show nI 0 = (if q.2 < q.1 then _ else _); rw [if_neg (by rw [← hs.1, ← hs.2]; exact Int32.not_lt.mpr c_152)]
            have h4 := hQ g1 g2 (upd (I 27) p (spn (spG (inS nl fa fb sl fr tg fl p e) (loK nl np ml nw pl fa fb sl pp pm ki fr tg wh bw rs sn qw) (hiK nl np ml nw pl fa fb sl pp pm ki fr tg wh bw rs sn qw) nk))) hs0 (fun q hq => ⟨(hf q hq).1, (hf q hq).2, upd_n _ _ hq⟩) (by rw [upd_s]; exact ev)
            rw [← ev] at h4
            exact h4
          · refine h_bipush dX10_measure_155 cb_m4 ?_
            refine h_istore_n dX10_measure_157 (Nat.le_of_ble_eq_true rfl) ?_
            refine h_aload_n dX10_measure_158 rfl ?_
            refine h_getR dX10_measure_159 f_X10_66_8 rfl rfl ?_
            refine h_iload_n dX10_measure_162 rfl ?_
            refine h_iload_n dX10_measure_163 rfl ?_
            refine h_iastN (j := p) dX10_measure_164 rfl rfl (by omega) rfl ?_
            refine h_iload_n dX10_measure_165 rfl ?_
            refine h_ireturn dX10_measure_166 rfl ?_
            have ev : (-4 : Int32) = spc (spG (inS nl fa fb sl fr tg fl p e) (loK nl np ml nw pl fa fb sl pp pm ki fr tg wh bw rs sn qw) (hiK nl np ml nw pl fa fb sl pp pm ki fr tg wh bw rs sn qw) nk) := by rw [hsn]; show _ = (if q.2 < q.1 then _ else _); rw [if_pos (by rw [← hs.1, ← hs.2]; exact Int32.not_le.mp c_152)]
            have h4 := hQ g1 g2 (upd (I 27) p ((-4 : Int32))) hs0 (fun q hq => ⟨(hf q hq).1, (hf q hq).2, upd_n _ _ hq⟩) (by rw [upd_s]; exact ev)
            rw [← ev] at h4
            exact h4
      · rw [nI_leI (by omega) (by omega)] at c_12
        have q1 := hsW k (by omega)
        refine h_aload_n dX10_measure_15 rfl ?_
        refine h_getR dX10_measure_16 f_X10_48_8 rfl rfl ?_
        refine h_iload dX10_measure_19 rfl ?_
        refine h_ialdN (j := k) dX10_measure_21 rfl rfl (by omega) rfl (hsi _ (by omega)).2.2.1 ?_
        refine h_iload_n dX10_measure_22 rfl ?_
        refine h_icmpne (tgt := 130) dX10_measure_23 rfl (fun c_23 => ?_) (fun c_23 => ?_)
        · rw [nI_eq (by omega) (by omega)] at c_23
          refine h_iinc (v := nI (k + 1)) dX10_measure_130 rfl (nI_1 _) (Nat.le_of_ble_eq_true rfl) ?_
          refine h_goto (tgt := 6) dX10_measure_133 rfl ?_
          have eS : spG (inS nl fa fb sl fr tg fl p e) (loK nl np ml nw pl fa fb sl pp pm ki fr tg wh bw rs sn qw) (hiK nl np ml nw pl fa fb sl pp pm ki fr tg wh bw rs sn qw) (k + 1) = spG (inS nl fa fb sl fr tg fl p e) (loK nl np ml nw pl fa fb sl pp pm ki fr tg wh bw rs sn qw) (hiK nl np ml nw pl fa fb sl pp pm ki fr tg wh bw rs sn qw) k := if_neg (by unfold inS; simp only [Bool.and_eq_true, decide_eq_true_eq]; rintro ⟨⟨y1, y2⟩, y3⟩; exact c_23 y1)
          rw [← eS] at hs
          rw [← eS]
          exact ih (k + 1) g1 g2 (by omega) (by omega) hs hf _ _
        · rw [nI_eq (by omega) (by omega)] at c_23
          refine h_iload dX10_measure_26 rfl ?_
          refine h_iload_n dX10_measure_28 rfl ?_
          refine h_icmpeq (tgt := 130) dX10_measure_29 rfl (fun c_29 => ?_) (fun c_29 => ?_)
          · refine h_iinc (v := nI (k + 1)) dX10_measure_130 rfl (nI_1 _) (Nat.le_of_ble_eq_true rfl) ?_
            refine h_goto (tgt := 6) dX10_measure_133 rfl ?_
            have eS : spG (inS nl fa fb sl fr tg fl p e) (loK nl np ml nw pl fa fb sl pp pm ki fr tg wh bw rs sn qw) (hiK nl np ml nw pl fa fb sl pp pm ki fr tg wh bw rs sn qw) (k + 1) = spG (inS nl fa fb sl fr tg fl p e) (loK nl np ml nw pl fa fb sl pp pm ki fr tg wh bw rs sn qw) (hiK nl np ml nw pl fa fb sl pp pm ki fr tg wh bw rs sn qw) k := if_neg (by unfold inS; simp only [Bool.and_eq_true, decide_eq_true_eq]; rintro ⟨⟨y1, y2⟩, y3⟩; exact y2 c_29)
            rw [← eS] at hs
            rw [← eS]
            exact ih (k + 1) g1 g2 (by omega) (by omega) hs hf _ _
          · refine h_aload_n dX10_measure_32 rfl ?_
            refine h_iload dX10_measure_33 rfl ?_
            refine h_cV1 dX10_measure_35 k3_112 oVX10_counts rfl rfl ?_
            refine c_counts hG (by omega) (fun b1 => ?_) (fun b1 => ?_)
            · refine h_ifne (tgt := 44) dX10_measure_38 rfl (fun _ => ?_) (fun c => absurd c (by decide))
              have hfk : dist fa fb sl nl (fr k) < 1000000 := by
                unfold cnK at b1
                simp at b1
                exact b1.2
              refine h_aload_n dX10_measure_44 rfl ?_
              refine h_iload dX10_measure_45 rfl ?_
              refine h_cV1 dX10_measure_47 k3_118 oVX10_footOf rfl rfl ?_
              refine c_footOf hG (by omega) ?_
              refine h_istore dX10_measure_50 (Nat.le_of_ble_eq_true rfl) ?_
              refine h_aload_n dX10_measure_52 rfl ?_
              refine h_iload dX10_measure_53 rfl ?_
              refine h_cV1 dX10_measure_55 k3_119 oVX10_reachOf rfl rfl ?_
              refine c_reachOf hG (by omega) hfk ?_
              refine h_istore dX10_measure_58 (Nat.le_of_ble_eq_true rfl) ?_
              refine h_aload_n dX10_measure_60 rfl ?_
              refine h_getR dX10_measure_61 f_X10_60_8 rfl rfl ?_
              refine h_iload_n dX10_measure_64 rfl ?_
              refine h_iload_n dX10_measure_65 rfl ?_
              refine h_bipush dX10_measure_66 cb_m3 ?_
              refine h_icmpne (tgt := 79) dX10_measure_68 rfl (fun c_68 => ?_) (fun c_68 => ?_)
              · obtain ⟨q, hsn⟩ : ∃ q, spG (inS nl fa fb sl fr tg fl p e) (loK nl np ml nw pl fa fb sl pp pm ki fr tg wh bw rs sn qw) (hiK nl np ml nw pl fa fb sl pp pm ki fr tg wh bw rs sn qw) k = some q := by
                  cases e0 : spG (inS nl fa fb sl fr tg fl p e) (loK nl np ml nw pl fa fb sl pp pm ki fr tg wh bw rs sn qw) (hiK nl np ml nw pl fa fb sl pp pm ki fr tg wh bw rs sn qw) k with
                  | none => rw [e0] at c_68; exact absurd rfl c_68
                  | some q => exact ⟨q, rfl⟩
                rw [hsn] at hs
                refine h_aload_n dX10_measure_79 rfl ?_
                refine h_getR dX10_measure_80 f_X10_60_8 rfl rfl ?_
                refine h_iload_n dX10_measure_83 rfl ?_
                refine h_ialdN (j := p) dX10_measure_84 rfl rfl (by omega) rfl (show _ = g1 p from rfl) ?_
                refine h_iload dX10_measure_85 rfl ?_
                refine h_iload dX10_measure_87 rfl ?_
                refine h_isub dX10_measure_89 ?_
                refine h_mmax dX10_measure_90 k3_120 k3_121 k1_14 k3_122 (Nat.le_of_ble_eq_true rfl) ?_
                refine h_iastN (j := p) dX10_measure_93 rfl rfl (by omega) rfl ?_
                refine h_aload_n dX10_measure_94 rfl ?_
                refine h_getR dX10_measure_95 f_X10_63_8 rfl rfl ?_
                refine h_iload_n dX10_measure_98 rfl ?_
                refine h_iload_n dX10_measure_99 rfl ?_
                refine h_bipush dX10_measure_100 cb_m3 ?_
                refine h_icmpne (tgt := 113) dX10_measure_102 rfl (fun c_102 => ?_) (fun c_102 => ?_)
                · refine h_aload_n dX10_measure_113 rfl ?_
                  refine h_getR dX10_measure_114 f_X10_63_8 rfl rfl ?_
                  refine h_iload_n dX10_measure_117 rfl ?_
                  refine h_ialdN (j := p) dX10_measure_118 rfl rfl (by omega) rfl (show _ = g2 p from rfl) ?_
                  refine h_iload dX10_measure_119 rfl ?_
                  refine h_iload dX10_measure_121 rfl ?_
                  refine h_iadd dX10_measure_123 ?_
                  refine h_mmin dX10_measure_124 k3_123 k3_124 k1_14 k3_125 (Nat.le_of_ble_eq_true rfl) ?_
                  refine h_iastN (j := p) dX10_measure_127 rfl rfl (by omega) rfl ?_
                  refine h_iconst dX10_measure_128 ci_0 ?_
                  refine h_istore_n dX10_measure_129 (Nat.le_of_ble_eq_true rfl) ?_
                  refine h_iinc (v := nI (k + 1)) dX10_measure_130 rfl (nI_1 _) (Nat.le_of_ble_eq_true rfl) ?_
                  refine h_goto (tgt := 6) dX10_measure_133 rfl ?_
                  have hin : inS nl fa fb sl fr tg fl p e k = true := by unfold inS; simp only [Bool.and_eq_true, decide_eq_true_eq]; exact ⟨⟨c_23, c_29⟩, b1⟩
                  have eS : spG (inS nl fa fb sl fr tg fl p e) (loK nl np ml nw pl fa fb sl pp pm ki fr tg wh bw rs sn qw) (hiK nl np ml nw pl fa fb sl pp pm ki fr tg wh bw rs sn qw) (k + 1) = some ((if g1 p < loK nl np ml nw pl fa fb sl pp pm ki fr tg wh bw rs sn qw k then loK nl np ml nw pl fa fb sl pp pm ki fr tg wh bw rs sn qw k else g1 p), (if hiK nl np ml nw pl fa fb sl pp pm ki fr tg wh bw rs sn qw k < g2 p then hiK nl np ml nw pl fa fb sl pp pm ki fr tg wh bw rs sn qw k else g2 p)) := by
                    show (if _ then _ else _) = _
                    rw [if_pos hin, hsn]
                    show some (if q.1 < _ then _ else q.1, if _ < q.2 then _ else q.2) = _
                    rw [hs.1, hs.2]
                  rw [upI_in _ (by decide), upA_I]
                  have h3 := ih (k + 1) (upd g1 p ((if g1 p < loK nl np ml nw pl fa fb sl pp pm ki fr tg wh bw rs sn qw k then loK nl np ml nw pl fa fb sl pp pm ki fr tg wh bw rs sn qw k else g1 p))) (upd g2 p ((if hiK nl np ml nw pl fa fb sl pp pm ki fr tg wh bw rs sn qw k < g2 p then hiK nl np ml nw pl fa fb sl pp pm ki fr tg wh bw rs sn qw k else g2 p))) (by omega) (by omega) (by rw [eS]; exact ⟨upd_s _ _ _, upd_s _ _ _⟩) (fun q hq => by rw [upd_n _ _ hq, upd_n _ _ hq]; exact hf q hq)
                  rw [eS] at h3
                  exact h3 _ _
                · exact absurd c_102 c_68
              · have hsn : spG (inS nl fa fb sl fr tg fl p e) (loK nl np ml nw pl fa fb sl pp pm ki fr tg wh bw rs sn qw) (hiK nl np ml nw pl fa fb sl pp pm ki fr tg wh bw rs sn qw) k = none := by
                  cases e0 : spG (inS nl fa fb sl fr tg fl p e) (loK nl np ml nw pl fa fb sl pp pm ki fr tg wh bw rs sn qw) (hiK nl np ml nw pl fa fb sl pp pm ki fr tg wh bw rs sn qw) k with
                  | none => rfl
                  | some q => rw [e0] at c_68; exact absurd c_68 (by show ¬ nI 0 = -3; decide)
                refine h_iload dX10_measure_71 rfl ?_
                refine h_iload dX10_measure_73 rfl ?_
                refine h_isub dX10_measure_75 ?_
                refine h_goto (tgt := 93) dX10_measure_76 rfl ?_
                refine h_iastN (j := p) dX10_measure_93 rfl rfl (by omega) rfl ?_
                refine h_aload_n dX10_measure_94 rfl ?_
                refine h_getR dX10_measure_95 f_X10_63_8 rfl rfl ?_
                refine h_iload_n dX10_measure_98 rfl ?_
                refine h_iload_n dX10_measure_99 rfl ?_
                refine h_bipush dX10_measure_100 cb_m3 ?_
                refine h_icmpne (tgt := 113) dX10_measure_102 rfl (fun c_102 => ?_) (fun c_102 => ?_)
                · exact absurd c_68 c_102
                · refine h_iload dX10_measure_105 rfl ?_
                  refine h_iload dX10_measure_107 rfl ?_
                  refine h_iadd dX10_measure_109 ?_
                  refine h_goto (tgt := 127) dX10_measure_110 rfl ?_
                  refine h_iastN (j := p) dX10_measure_127 rfl rfl (by omega) rfl ?_
                  refine h_iconst dX10_measure_128 ci_0 ?_
                  refine h_istore_n dX10_measure_129 (Nat.le_of_ble_eq_true rfl) ?_
                  refine h_iinc (v := nI (k + 1)) dX10_measure_130 rfl (nI_1 _) (Nat.le_of_ble_eq_true rfl) ?_
                  refine h_goto (tgt := 6) dX10_measure_133 rfl ?_
                  have hin : inS nl fa fb sl fr tg fl p e k = true := by unfold inS; simp only [Bool.and_eq_true, decide_eq_true_eq]; exact ⟨⟨c_23, c_29⟩, b1⟩
                  have eS : spG (inS nl fa fb sl fr tg fl p e) (loK nl np ml nw pl fa fb sl pp pm ki fr tg wh bw rs sn qw) (hiK nl np ml nw pl fa fb sl pp pm ki fr tg wh bw rs sn qw) (k + 1) = some (loK nl np ml nw pl fa fb sl pp pm ki fr tg wh bw rs sn qw k, hiK nl np ml nw pl fa fb sl pp pm ki fr tg wh bw rs sn qw k) := by
                    show (if _ then _ else _) = _
                    rw [if_pos hin, hsn]
                  rw [upI_in _ (by decide), upA_I]
                  have h3 := ih (k + 1) (upd g1 p (loK nl np ml nw pl fa fb sl pp pm ki fr tg wh bw rs sn qw k)) (upd g2 p (hiK nl np ml nw pl fa fb sl pp pm ki fr tg wh bw rs sn qw k)) (by omega) (by omega) (by rw [eS]; exact ⟨upd_s _ _ _, upd_s _ _ _⟩) (fun q hq => by rw [upd_n _ _ hq, upd_n _ _ hq]; exact hf q hq)
                  rw [eS] at h3
                  exact h3 _ _
            · refine h_ifne (tgt := 44) dX10_measure_38 rfl (fun c => absurd (by decide) c) (fun _ => ?_)
              refine h_goto (tgt := 130) dX10_measure_41 rfl ?_
              refine h_iinc (v := nI (k + 1)) dX10_measure_130 rfl (nI_1 _) (Nat.le_of_ble_eq_true rfl) ?_
              refine h_goto (tgt := 6) dX10_measure_133 rfl ?_
              have eS : spG (inS nl fa fb sl fr tg fl p e) (loK nl np ml nw pl fa fb sl pp pm ki fr tg wh bw rs sn qw) (hiK nl np ml nw pl fa fb sl pp pm ki fr tg wh bw rs sn qw) (k + 1) = spG (inS nl fa fb sl fr tg fl p e) (loK nl np ml nw pl fa fb sl pp pm ki fr tg wh bw rs sn qw) (hiK nl np ml nw pl fa fb sl pp pm ki fr tg wh bw rs sn qw) k := if_neg (by unfold inS; simp only [Bool.and_eq_true, decide_eq_true_eq]; rintro ⟨⟨y1, y2⟩, y3⟩; exact b1 y3)
              rw [← eS] at hs
              rw [← eS]
              exact ih (k + 1) g1 g2 (by omega) (by omega) hs hf _ _
  show HV l mX10_measure (dp + 5) 0 0 0 [some (.ref 1), some (.int (nI p)), some (.int e), none, none, none, none] [] hSH I J (hRR lt tx) Q
  refine h_bipush dX10_measure_0 cb_m3 ?_
  refine h_istore_n dX10_measure_2 (Nat.le_of_ble_eq_true rfl) ?_
  refine h_iconst dX10_measure_3 ci_0 ?_
  refine h_istore dX10_measure_4 (Nat.le_of_ble_eq_true rfl) ?_
  have h0 := Lo (nk + 1) 0 (I 25) (I 26) (by omega) (by omega) trivial (fun q _ => ⟨rfl, rfl⟩) none none
  rw [upA_id] at h0
  rw [upA_id] at h0
  exact h0
