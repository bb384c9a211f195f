theorem rG_cg {ns nl np ml nk nw : Nat} {pl fa fb sl pp pm ki fr tg wh bw : Nat → Nat} {rs sn : Nat → Int32} {fl : Nat → Bool} {qw : Nat → Nat → Nat → Nat → Bool} {I I2 : hI} (f0 : I2 82 0 = I 82 0) (f2 : I2 82 2 = I 82 2) (f4 : I2 82 4 = I 82 4) (f7 : I2 82 7 = I 82 7) (f9 : I2 82 9 = I 82 9) (f6 : I2 82 6 = I 82 6) (a83 : ∀ j, j < 6 → I2 83 j = I 83 j) (a84 : ∀ j, j < 48 → I2 84 j = I 84 j) (a85 : ∀ j, j < 16 → I2 85 j = I 85 j) (a86 : ∀ j, j < 168 → I2 86 j = I 86 j) (a87 : ∀ j, j < 8 → I2 87 j = I 87 j) (a88 : ∀ j, j < 8 → I2 88 j = I 88 j) (a89 : ∀ j, j < 210 → I2 89 j = I 89 j) (hG : rG I ns nl np ml nk nw pl fa fb sl pp pm ki fr tg wh bw rs sn fl qw) : rG I2 ns nl np ml nk nw pl fa fb sl pp pm ki fr tg wh bw rs sn fl qw := by
  obtain ⟨⟨hns, hnl, hpl, hlg⟩, hw, ⟨hnp, hml, hnk, hpt, hsi⟩, hvw, ⟨hnw, hw8, en, cw, e1, e2, e3⟩⟩ := hG
  obtain ⟨hn6, hl12, -⟩ := id hw
  obtain ⟨hn8, hm2, hn24, -⟩ := id hvw
  refine ⟨⟨f0.trans hns, f2.trans hnl, fun s hs => (a83 s (by omega)).trans (hpl s hs), fun k hk => ?_⟩, hw, ⟨f4.trans hnp, f6.trans hml, f7.trans hnk, fun p hp => ?_, fun k hk => ?_⟩, hvw, ⟨f9.trans hnw, hw8, en, cw, fun c hc => ?_, fun c hc i hi => ?_, e3⟩⟩
  · rw [a84 _ (by omega), a84 _ (by omega), a84 _ (by omega), a84 _ (by omega)]; exact hlg k hk
  · rw [a85 _ (by omega), a85 _ (by omega)]; exact hpt p hp
  · rw [a86 _ (by omega), a86 _ (by omega), a86 _ (by omega), a86 _ (by omega), a86 _ (by omega), a86 _ (by omega), a86 _ (by omega)]; exact hsi k hk
  · rw [a87 _ (by omega), a88 _ (by omega)]; exact e1 c hc
  · have q := (e1 c hc).2.1
    rw [a89 _ (by omega)]; exact e2 c hc i hi
/-- the memory as back would make it -/
def rst8 (I : hI) : hI := fun a j => if a = 82 then (if j = 0 then I 111 0 else if j = 2 then I 111 1 else if j = 4 then I 111 2 else if j = 7 then I 111 3 else if j = 9 then I 111 4 else if j = 6 then I 111 5 else I 82 j) else if a = 83 then I 111 (6 + j) else if a = 84 then I 111 (12 + j) else if a = 85 then I 111 (60 + j) else if a = 86 then I 111 (76 + j) else if a = 87 then I 111 (244 + j) else if a = 88 then I 111 (252 + j) else if a = 89 then I 111 (260 + j) else I a j
theorem r_keep {l : Launch} {dp : Nat} {ns nl np ml nk nw : Nat} {pl fa fb sl pp pm ki fr tg wh bw : Nat → Nat} {rs sn : Nat → Int32} {fl : Nat → Bool} {qw : Nat → Nat → Nat → Nat → Bool} {I : hI} {J : hJ} {lt tx : Option Nat} {Q : hQ} (hG : rG I ns nl np ml nk nw pl fa fb sl pp pm ki fr tg wh bw rs sn fl qw) (hQ : ∀ I', rG (rst8 I') ns nl np ml nk nw pl fa fb sl pp pm ki fr tg wh bw rs sn fl qw → I' 82 50 = nI 1 → (∀ a, a ≠ 111 → a ≠ 112 → a ≠ 82 → I' a = I a) → (∀ j, j ≠ 50 → j ≠ 52 → I' 82 j = I 82 j) → Q (some (.int (nI 1))) hSH I' J (hRR lt tx))  : HC l mX12_keep (dp + 2) 0 0 [.ref 82] hSH I J (hRR lt tx) Q := by
  refine HC.of (by decide +kernel) rfl (Nat.le_of_ble_eq_true rfl) ?_
  show HV l mX12_keep (dp + 2) 0 0 0 [some (.ref 82)] [] hSH I J (hRR lt tx) Q
  obtain ⟨hN, hw, ⟨hnp, hml, hnk, hpt, hsi⟩, ⟨hn8, hm2, hn24, hpW, hsW⟩, hL⟩ := id hG
  obtain ⟨hns, hnl, hpl, hlg⟩ := id hN
  obtain ⟨hn6, hl12, hW, hp99, hr99⟩ := id hw
  refine h_aload_n dX12_keep_0 rfl ?_
  refine h_iconst dX12_keep_1 ci_1 ?_
  refine h_cV1 dX12_keep_2 k7_84 oVX12_moveAll rfl rfl ?_
  refine r_moveAll1 (fun I2 hA hF m0 m1 m2 m3 m4 m5 a83 a84 a85 a86 a87 a88 a89 => ?_)
  refine h_aload_n dX12_keep_5 rfl ?_
  refine h_iconst dX12_keep_6 ci_1 ?_
  refine h_putZ dX12_keep_7 f_X12_414_10 p_X12_10_50 (fun h => by cases h) rfl (by decide) ?_
  refine h_iconst dX12_keep_10 ci_1 ?_
  refine h_ireturn dX12_keep_11 rfl ?_
  refine hQ _ (rG_cg m0 m1 m2 m3 m4 m5 a83 a84 a85 a86 a87 a88 a89 hG) rfl (fun a h1 h2 h3 => ?_) (fun j h1 h2 => ?_)
  · rw [upI_n _ _ _ h3]; exact hA a h1 h2 h3
  · rw [upI_s, upd_n _ _ h1]; exact hF j h2
theorem r_back {l : Launch} {dp : Nat} {ns nl np ml nk nw : Nat} {pl fa fb sl pp pm ki fr tg wh bw : Nat → Nat} {rs sn : Nat → Int32} {fl : Nat → Bool} {qw : Nat → Nat → Nat → Nat → Bool} {I : hI} {J : hJ} {lt tx : Option Nat} {Q : hQ} (hkp : I 82 50 = nI 1) (hK : rG (rst8 I) ns nl np ml nk nw pl fa fb sl pp pm ki fr tg wh bw rs sn fl qw) (hQ : ∀ I', rG I' ns nl np ml nk nw pl fa fb sl pp pm ki fr tg wh bw rs sn fl qw → (∀ a, a < 82 ∨ (89 < a ∧ a ≠ 112) → I' a = I a) → (∀ j, j ≠ 0 → j ≠ 2 → j ≠ 4 → j ≠ 7 → j ≠ 9 → j ≠ 6 → j ≠ 52 → I' 82 j = I 82 j) → Q (some (.int (nI 1))) hSH I' J (hRR lt tx))  : HC l mX12_back (dp + 2) 0 0 [.ref 82] hSH I J (hRR lt tx) Q := by
  refine HC.of (by decide +kernel) rfl (Nat.le_of_ble_eq_true rfl) ?_
  show HV l mX12_back (dp + 2) 0 0 0 [some (.ref 82)] [] hSH I J (hRR lt tx) Q
  refine h_aload_n dX12_back_0 rfl ?_
  refine h_getZ dX12_back_1 f_X12_414_10 rfl hkp ?_
  refine h_ifne (tgt := 10) dX12_back_4 rfl (fun _ => ?_) (fun c => absurd c (by decide))
  refine h_aload_n dX12_back_10 rfl ?_
  refine h_iconst dX12_back_11 ci_0 ?_
  refine h_cV1 dX12_back_12 k7_84 oVX12_moveAll rfl rfl ?_
  refine r_moveAll0 (fun I2 hA hF a112 a83 a84 a85 a86 a87 a88 a89 => ?_)
  refine h_aload_n dX12_back_15 rfl ?_
  refine h_aload_n dX12_back_16 rfl ?_
  refine h_getR dX12_back_17 f_X12_99_10 rfl rfl ?_
  refine h_iconst dX12_back_20 ci_0 ?_
  refine h_ialdN (j := 0) dX12_back_21 rfl rfl (by omega) rfl (show _ = I 111 (0 + 0) from a112 0 (by decide)) ?_
  refine h_putI dX12_back_22 f_X12_102_10 p_X12_10_0 (fun h => by cases h) rfl ?_
  refine h_aload_n dX12_back_25 rfl ?_
  refine h_aload_n dX12_back_26 rfl ?_
  refine h_getR dX12_back_27 f_X12_99_10 rfl rfl ?_
  refine h_iconst dX12_back_30 ci_1 ?_
  refine h_ialdN (j := 1) dX12_back_31 rfl rfl (by omega) rfl (show _ = I 111 (0 + 1) from a112 1 (by decide)) ?_
  refine h_putI dX12_back_32 f_X12_120_10 p_X12_10_2 (fun h => by cases h) rfl ?_
  refine h_aload_n dX12_back_35 rfl ?_
  refine h_aload_n dX12_back_36 rfl ?_
  refine h_getR dX12_back_37 f_X12_99_10 rfl rfl ?_
  refine h_iconst dX12_back_40 ci_2 ?_
  refine h_ialdN (j := 2) dX12_back_41 rfl rfl (by omega) rfl (show _ = I 111 (0 + 2) from a112 2 (by decide)) ?_
  refine h_putI dX12_back_42 f_X12_110_10 p_X12_10_4 (fun h => by cases h) rfl ?_
  refine h_aload_n dX12_back_45 rfl ?_
  refine h_aload_n dX12_back_46 rfl ?_
  refine h_getR dX12_back_47 f_X12_99_10 rfl rfl ?_
  refine h_iconst dX12_back_50 ci_3 ?_
  refine h_ialdN (j := 3) dX12_back_51 rfl rfl (by omega) rfl (show _ = I 111 (0 + 3) from a112 3 (by decide)) ?_
  refine h_putI dX12_back_52 f_X12_113_10 p_X12_10_7 (fun h => by cases h) rfl ?_
  refine h_aload_n dX12_back_55 rfl ?_
  refine h_aload_n dX12_back_56 rfl ?_
  refine h_getR dX12_back_57 f_X12_99_10 rfl rfl ?_
  refine h_iconst dX12_back_60 ci_4 ?_
  refine h_ialdN (j := 4) dX12_back_61 rfl rfl (by omega) rfl (show _ = I 111 (0 + 4) from a112 4 (by decide)) ?_
  refine h_putI dX12_back_62 f_X12_328_10 p_X12_10_9 (fun h => by cases h) rfl ?_
  refine h_aload_n dX12_back_65 rfl ?_
  refine h_aload_n dX12_back_66 rfl ?_
  refine h_getR dX12_back_67 f_X12_99_10 rfl rfl ?_
  refine h_iconst dX12_back_70 ci_5 ?_
  refine h_ialdN (j := 5) dX12_back_71 rfl rfl (by omega) rfl (show _ = I 111 (0 + 5) from a112 5 (by decide)) ?_
  refine h_putI dX12_back_72 f_X12_142_10 p_X12_10_6 (fun h => by cases h) rfl ?_
  refine h_iconst dX12_back_75 ci_1 ?_
  refine h_ireturn dX12_back_76 rfl ?_
  refine hQ _ (rG_cg (I := rst8 I) rfl rfl rfl rfl rfl rfl a83 a84 a85 a86 a87 a88 a89 hK) (fun a ha => ?_) (fun j q0 q2 q4 q7 q9 q6 q52 => ?_)
  · simp only [upI]
    rw [if_neg (by omega), if_neg (by omega), if_neg (by omega), if_neg (by omega), if_neg (by omega), if_neg (by omega)]
    exact hA a ha
  · simp only [upI, upd, if_true, q0, q2, q4, q7, q9, q6, if_false]
    exact hF j q52
theorem r_back0 {l : Launch} {dp : Nat} {I : hI} {J : hJ} {lt tx : Option Nat} {Q : hQ} (hkp : I 82 50 = nI 0) (hQ : Q (some (.int (-3))) hSH I J (hRR lt tx)) : HC l mX12_back (dp + 2) 0 0 [.ref 82] hSH I J (hRR lt tx) Q := by
  refine HC.of (by decide +kernel) rfl (Nat.le_of_ble_eq_true rfl) ?_
  show HV l mX12_back (dp + 2) 0 0 0 [some (.ref 82)] [] hSH I J (hRR lt tx) Q
  refine h_aload_n dX12_back_0 rfl ?_
  refine h_getZ dX12_back_1 f_X12_414_10 rfl hkp ?_
  refine h_ifne (tgt := 10) dX12_back_4 rfl (fun c => absurd (by decide) c) (fun _ => ?_)
  refine h_bipush dX12_back_7 cb_m3 ?_
  refine h_ireturn dX12_back_9 rfl ?_
  exact hQ
