theorem ap_o {ca cf ff x : Nat} (h1 : x ≠ ca) (h2 : x ≠ cf) : ∀ {l : List Nat} {I : hI} {j : Nat}, ap I ca cf ff j l x = I x
  | [], _, _ => rfl
  | b :: l, I, j => (ap_o h1 h2 (l := l)).trans (by rw [upI_n _ _ _ h2, upI_n _ _ _ h1])
theorem ap_m {ca cf ff : Nat} (h : ca ≠ cf) : ∀ {l : List Nat} {I : hI} {j i : Nat}, i < j → ap I ca cf ff j l ca i = I ca i
  | [], _, _, _, _ => rfl
  | b :: l, I, j, i, hi => (ap_m h (l := l) (by omega)).trans (by rw [upI_n _ _ _ h, upI_s, upd_n _ _ (by omega)])
theorem ap_g {ca cf ff : Nat} (h : ca ≠ cf) : ∀ {l : List Nat} {I : hI} {j i : Nat}, i < l.length → ap I ca cf ff j l ca (j + i) = nI (l.getD i 0)
  | [], _, _, _, hi => absurd hi (Nat.not_lt_zero _)
  | b :: l, I, j, 0, _ => (ap_m h (l := l) (by omega)).trans (by rw [upI_n _ _ _ h, upI_s]; exact upd_s _ _ _)
  | b :: l, I, j, i + 1, hi => by
    have e := ap_g (ff := ff) h (l := l) (I := upI (upI I ca j (nI b)) cf ff (nI (j + 1))) (j := j + 1) (i := i) (Nat.lt_of_succ_lt_succ hi)
    rw [show j + (i + 1) = j + 1 + i by omega]
    exact e
theorem ap_g0 {ca cf ff : Nat} (h : ca ≠ cf) {l : List Nat} {I : hI} {i : Nat} (hi : i < l.length) : ap I ca cf ff 0 l ca i = nI (l.getD i 0) := by
  have e := ap_g (ff := ff) h (I := I) (j := 0) hi
  rw [Nat.zero_add] at e
  exact e
def AC (I I2 : hI) : Prop := ∃ g70 g71 g72 g73 g74 g75 g76 g77 g78 g79 g80 g81, I2 = (upA (upA (upA (upA (upA (upA (upA (upA (upA (upA (upA (upA I 70 g70) 71 g71) 72 g72) 73 g73) 74 g74) 75 g75) 76 g76) 77 g77) 78 g78) 79 g79) 80 g80) 81 g81)
theorem AC_of {I I2 : hI} (h : ∀ x, x < 70 ∨ 81 < x → I2 x = I x) : AC I I2 := by
  refine ⟨I2 70, I2 71, I2 72, I2 73, I2 74, I2 75, I2 76, I2 77, I2 78, I2 79, I2 80, I2 81, ?_⟩
  funext x
  by_cases e70 : x = 70
  · subst e70; simp [upA]
  by_cases e71 : x = 71
  · subst e71; simp [upA]
  by_cases e72 : x = 72
  · subst e72; simp [upA]
  by_cases e73 : x = 73
  · subst e73; simp [upA]
  by_cases e74 : x = 74
  · subst e74; simp [upA]
  by_cases e75 : x = 75
  · subst e75; simp [upA]
  by_cases e76 : x = 76
  · subst e76; simp [upA]
  by_cases e77 : x = 77
  · subst e77; simp [upA]
  by_cases e78 : x = 78
  · subst e78; simp [upA]
  by_cases e79 : x = 79
  · subst e79; simp [upA]
  by_cases e80 : x = 80
  · subst e80; simp [upA]
  by_cases e81 : x = 81
  · subst e81; simp [upA]
  simp only [upA, e70, e71, e72, e73, e74, e75, e76, e77, e78, e79, e80, e81, if_false]
  exact h x (by omega)
def AR (I I2 : hI) : Prop := ∃ g110 v82_44 v82_45 v82_46 v82_48 v82_49, I2 = (upI (upI (upI (upI (upI (upA I 110 g110) 82 44 v82_44) 82 45 v82_45) 82 46 v82_46) 82 48 v82_48) 82 49 v82_49)
theorem AR_iff {I I2 : hI} : AR I I2 ↔ (∀ x, x ≠ 110 → x ≠ 82 → I2 x = I x) ∧ ∀ j, j ≠ 44 → j ≠ 45 → j ≠ 46 → j ≠ 48 → j ≠ 49 → I2 82 j = I 82 j := by
  constructor
  · rintro ⟨g110, v82_44, v82_45, v82_46, v82_48, v82_49, rfl⟩
    refine ⟨fun x h110 h82 => ?_, fun j q44 q45 q46 q48 q49 => ?_⟩
    · simp [upA, upI, h110, h82]
    · simp [upA, upI, upd, q44, q45, q46, q48, q49]
  · rintro ⟨h, f82⟩
    refine ⟨I2 110, I2 82 44, I2 82 45, I2 82 46, I2 82 48, I2 82 49, ?_⟩
    funext x
    by_cases e110 : x = 110
    · subst e110; simp [upA, upI]
    · skip
      by_cases e82 : x = 82
      · subst e82
        funext j
        by_cases q44 : j = 44
        · subst q44; simp [upA, upI, upd]
        · skip
          by_cases q45 : j = 45
          · subst q45; simp [upA, upI, upd]
          · skip
            by_cases q46 : j = 46
            · subst q46; simp [upA, upI, upd]
            · skip
              by_cases q48 : j = 48
              · subst q48; simp [upA, upI, upd]
              · skip
                by_cases q49 : j = 49
                · subst q49; simp [upA, upI, upd]
                · skip
                  simp [upA, upI, upd, q44, q45, q46, q48, q49, f82 j q44 q45 q46 q48 q49]
      · skip
        simp [upA, upI, e110, e82, h x e110 e82]
theorem AR_id (I : hI) : AR I I := AR_iff.mpr ⟨fun x _ _ => rfl, fun j _ _ _ _ _ => rfl⟩
theorem AR_tr {I I2 I3 : hI} (k1 : AR I I2) (k2 : AR I2 I3) : AR I I3 := AR_iff.mpr ⟨fun x h110 h82 => ((AR_iff.mp k2).1 x h110 h82).trans ((AR_iff.mp k1).1 x h110 h82), fun j q44 q45 q46 q48 q49 => ((AR_iff.mp k2).2 j q44 q45 q46 q48 q49).trans ((AR_iff.mp k1).2 j q44 q45 q46 q48 q49)⟩
theorem r_ran {l : Launch} {dp : Nat} {j b : Nat} {I : hI} {J : hJ} {lt tx : Option Nat} {Q : hQ} (h2 : I 82 48 = nI j) (hj : j < 30) (hQ : Q none hSH (ap I 110 82 48 j [b]) J (hRR lt tx))  : HC l mX12_ran dp 0 0 [.ref 82, .int (nI b)] hSH I J (hRR lt tx) Q := by
  refine HC.of (by decide +kernel) rfl (Nat.le_of_ble_eq_true rfl) ?_
  show HV l mX12_ran dp 0 0 0 [some (.ref 82), some (.int (nI b))] [] hSH I J (hRR lt tx) Q
  refine h_aload_n dX12_ran_0 rfl ?_
  refine h_getI dX12_ran_1 f_X12_361_10 rfl (show _ = nI j from h2) ?_
  refine h_bipush dX12_ran_4 cb_30 ?_
  refine h_icmpge (tgt := 29) dX12_ran_6 rfl (fun c_6 => ?_) (fun c_6 => ?_)
  · rw [nI_leI (by omega) (by omega)] at c_6
    omega
  · rw [nI_leI (by omega) (by omega)] at c_6
    refine h_aload_n dX12_ran_9 rfl ?_
    refine h_getR dX12_ran_10 f_X12_93_10 rfl rfl ?_
    refine h_aload_n dX12_ran_13 rfl ?_
    refine h_getI dX12_ran_14 f_X12_361_10 rfl (show _ = nI j from h2) ?_
    refine h_iload_n dX12_ran_17 rfl ?_
    refine h_iastN (j := j) dX12_ran_18 rfl rfl (by omega) rfl ?_
    refine h_aload_n dX12_ran_19 rfl ?_
    refine h_dup dX12_ran_20 rfl ?_
    refine h_getI dX12_ran_21 f_X12_361_10 rfl (show _ = nI j from h2) ?_
    refine h_iconst dX12_ran_24 ci_1 ?_
    refine h_iaddN dX12_ran_25 ?_
    refine h_putI dX12_ran_26 f_X12_361_10 p_X12_10_48 (fun h => by cases h) rfl ?_
    refine h_return dX12_ran_29 rfl ?_
    exact hQ
theorem r1_X12_seesIt {l : Launch} {dp : Nat} {n a x : Int32} {j : Nat} {I : hI} {J : hJ} {lt tx : Option Nat} {Q : hQ} (h4 : I 82 44 = nI 1) (h0 : I 82 45 = n) (h1 : I 82 46 = a) (h2 : I 82 48 = nI j) (hj : j + 1 ≤ 30) (hQ : Q (some (.int (x + a))) hSH (ap I 110 82 48 j [10]) J (hRR lt tx))  : HC l mX12_seesIt (dp + 1) 0 0 [.ref 82, .int x] hSH I J (hRR lt tx) Q := by
  refine HC.of (by decide +kernel) rfl (Nat.le_of_ble_eq_true rfl) ?_
  show HV l mX12_seesIt (dp + 1) 0 0 0 [some (.ref 82), some (.int x), none] [] hSH I J (hRR lt tx) Q
  refine h_aload_n dX12_seesIt_0 rfl ?_
  refine h_getI dX12_seesIt_1 f_X12_364_10 rfl h4 ?_
  refine h_bipush dX12_seesIt_4 cb_6 ?_
  refine h_icmpne (tgt := 22) dX12_seesIt_6 rfl (fun _ => ?_) (fun c => absurd c (by decide))
  refine h_aload_n dX12_seesIt_22 rfl ?_
  refine h_getI dX12_seesIt_23 f_X12_364_10 rfl h4 ?_
  refine h_iconst dX12_seesIt_26 ci_4 ?_
  refine h_icmpne (tgt := 36) dX12_seesIt_27 rfl (fun _ => ?_) (fun c => absurd c (by decide))
  refine h_aload_n dX12_seesIt_36 rfl ?_
  refine h_getI dX12_seesIt_37 f_X12_364_10 rfl h4 ?_
  refine h_iconst dX12_seesIt_40 ci_5 ?_
  refine h_icmpne (tgt := 50) dX12_seesIt_41 rfl (fun _ => ?_) (fun c => absurd c (by decide))
  refine h_aload_n dX12_seesIt_50 rfl ?_
  refine h_getI dX12_seesIt_51 f_X12_364_10 rfl h4 ?_
  refine h_iconst dX12_seesIt_54 ci_2 ?_
  refine h_icmpeq (tgt := 66) dX12_seesIt_55 rfl (fun c => absurd c (by decide)) (fun _ => ?_)
  refine h_aload_n dX12_seesIt_58 rfl ?_
  refine h_getI dX12_seesIt_59 f_X12_364_10 rfl h4 ?_
  refine h_iconst dX12_seesIt_62 ci_5 ?_
  refine h_icmpne (tgt := 72) dX12_seesIt_63 rfl (fun _ => ?_) (fun c => absurd c (by decide))
  refine h_aload_n dX12_seesIt_72 rfl ?_
  refine h_bipush dX12_seesIt_73 cb_10 ?_
  refine h_cV1 dX12_seesIt_75 k7_40 oVX12_ran rfl rfl ?_
  refine r_ran (j := j) h2 (by omega) ?_
  refine h_iload_n dX12_seesIt_78 rfl ?_
  refine h_aload_n dX12_seesIt_79 rfl ?_
  refine h_getI dX12_seesIt_80 f_X12_370_10 rfl (ap_n (by decide) (by decide) h1) ?_
  refine h_iadd dX12_seesIt_83 ?_
  refine h_istore_n dX12_seesIt_84 (Nat.le_of_ble_eq_true rfl) ?_
  refine h_iload_n dX12_seesIt_85 rfl ?_
  refine h_aload_n dX12_seesIt_86 rfl ?_
  refine h_getI dX12_seesIt_87 f_X12_364_10 rfl (ap_n (by decide) (by decide) h4) ?_
  refine h_iconst dX12_seesIt_90 ci_2 ?_
  refine h_icmpeq (tgt := 102) dX12_seesIt_91 rfl (fun c => absurd c (by decide)) (fun _ => ?_)
  refine h_aload_n dX12_seesIt_94 rfl ?_
  refine h_getI dX12_seesIt_95 f_X12_364_10 rfl (ap_n (by decide) (by decide) h4) ?_
  refine h_iconst dX12_seesIt_98 ci_5 ?_
  refine h_icmpne (tgt := 109) dX12_seesIt_99 rfl (fun _ => ?_) (fun c => absurd c (by decide))
  refine h_iconst dX12_seesIt_109 ci_0 ?_
  refine h_isub dX12_seesIt_110 ?_
  refine h_istore_n dX12_seesIt_111 (Nat.le_of_ble_eq_true rfl) ?_
  refine h_aload_n dX12_seesIt_112 rfl ?_
  refine h_getI dX12_seesIt_113 f_X12_364_10 rfl (ap_n (by decide) (by decide) h4) ?_
  refine h_iconst dX12_seesIt_116 ci_4 ?_
  refine h_icmpne (tgt := 126) dX12_seesIt_117 rfl (fun _ => ?_) (fun c => absurd c (by decide))
  refine h_aload_n dX12_seesIt_126 rfl ?_
  refine h_getI dX12_seesIt_127 f_X12_364_10 rfl (ap_n (by decide) (by decide) h4) ?_
  refine h_iconst dX12_seesIt_130 ci_5 ?_
  refine h_icmpne (tgt := 140) dX12_seesIt_131 rfl (fun _ => ?_) (fun c => absurd c (by decide))
  refine h_iload_n dX12_seesIt_140 rfl ?_
  refine h_ireturn dX12_seesIt_141 rfl ?_
  rw [sub0]
  exact hQ
theorem r1_X12_sightBends {l : Launch} {dp : Nat} {n a x : Int32} {j : Nat} {I : hI} {J : hJ} {lt tx : Option Nat} {Q : hQ} (h4 : I 82 44 = nI 1) (h0 : I 82 45 = n) (h1 : I 82 46 = a) (h2 : I 82 48 = nI j) (hj : j + 2 ≤ 30) (hQ : Q (some (.int ((x + a) * nI 2))) hSH (ap I 110 82 48 j [11, 10]) J (hRR lt tx))  : HC l mX12_sightBends (dp + 2) 0 0 [.ref 82, .int x] hSH I J (hRR lt tx) Q := by
  refine HC.of (by decide +kernel) rfl (Nat.le_of_ble_eq_true rfl) ?_
  show HV l mX12_sightBends (dp + 2) 0 0 0 [some (.ref 82), some (.int x)] [] hSH I J (hRR lt tx) Q
  refine h_aload_n dX12_sightBends_0 rfl ?_
  refine h_bipush dX12_sightBends_1 cb_11 ?_
  refine h_cV1 dX12_sightBends_3 k7_40 oVX12_ran rfl rfl ?_
  refine r_ran (j := j) h2 (by omega) ?_
  refine h_aload_n dX12_sightBends_6 rfl ?_
  refine h_iload_n dX12_sightBends_7 rfl ?_
  refine h_cV1 dX12_sightBends_8 k7_36 oVX12_seesIt rfl rfl ?_
  refine r1_X12_seesIt (j := j + 1) (ap_n (by decide) (by decide) h4) (ap_n (by decide) (by decide) h0) (ap_n (by decide) (by decide) h1) (ap_c (by decide) rfl h2) (by omega) ?_
  rw [ap_aq [11] [10] [11, 10] 1 rfl rfl]
  refine h_iconst dX12_sightBends_11 ci_2 ?_
  refine h_imul dX12_sightBends_12 ?_
  refine h_ireturn dX12_sightBends_13 rfl ?_
  exact hQ
theorem r1_X12_bendsIt {l : Launch} {dp : Nat} {n a x : Int32} {j : Nat} {I : hI} {J : hJ} {lt tx : Option Nat} {Q : hQ} (h4 : I 82 44 = nI 1) (h0 : I 82 45 = n) (h1 : I 82 46 = a) (h2 : I 82 48 = nI j) (hj : j + 3 ≤ 30) (hQ : Q (some (.int ((x + a) * nI 2 + nI 7))) hSH (ap I 110 82 48 j [20, 11, 10]) J (hRR lt tx))  : HC l mX12_bendsIt (dp + 3) 0 0 [.ref 82, .int x] hSH I J (hRR lt tx) Q := by
  refine HC.of (by decide +kernel) rfl (Nat.le_of_ble_eq_true rfl) ?_
  show HV l mX12_bendsIt (dp + 3) 0 0 0 [some (.ref 82), some (.int x), none] [] hSH I J (hRR lt tx) Q
  refine h_aload_n dX12_bendsIt_0 rfl ?_
  refine h_getI dX12_bendsIt_1 f_X12_364_10 rfl h4 ?_
  refine h_tableIn (off := 40) (tgt := 44) dX12_bendsIt_4 (by decide) (by decide) (by decide) rfl ?_
  refine h_aload_n dX12_bendsIt_44 rfl ?_
  refine h_bipush dX12_bendsIt_45 cb_20 ?_
  refine h_cV1 dX12_bendsIt_47 k7_40 oVX12_ran rfl rfl ?_
  refine r_ran (j := j) h2 (by omega) ?_
  refine h_aload_n dX12_bendsIt_50 rfl ?_
  refine h_iload_n dX12_bendsIt_51 rfl ?_
  refine h_cV1 dX12_bendsIt_52 k7_48 oVX12_sightBends rfl rfl ?_
  refine r1_X12_sightBends (j := j + 1) (ap_n (by decide) (by decide) h4) (ap_n (by decide) (by decide) h0) (ap_n (by decide) (by decide) h1) (ap_c (by decide) rfl h2) (by omega) ?_
  rw [ap_aq [20] [11, 10] [20, 11, 10] 1 rfl rfl]
  refine h_bipush dX12_bendsIt_55 cb_7 ?_
  refine h_iadd dX12_bendsIt_57 ?_
  refine h_ireturn dX12_bendsIt_58 rfl ?_
  exact hQ
theorem r1_X12_sightLeans {l : Launch} {dp : Nat} {n a x : Int32} {j : Nat} {I : hI} {J : hJ} {lt tx : Option Nat} {Q : hQ} (h4 : I 82 44 = nI 1) (h0 : I 82 45 = n) (h1 : I 82 46 = a) (h2 : I 82 48 = nI j) (hj : j + 1 ≤ 30) (hP : ∀ v, a = n → Q (some (.int v)) hSH (upI (ap I 110 82 48 j [12]) 82 49 (nI 1)) J (hRR lt tx)) (hQ : ¬ a = n → Q (some (.int (x / (a - n)))) hSH (ap I 110 82 48 j [12]) J (hRR lt tx))  : HC l mX12_sightLeans (dp + 1) 0 0 [.ref 82, .int x] hSH I J (hRR lt tx) Q := by
  refine HC.of (by decide +kernel) rfl (Nat.le_of_ble_eq_true rfl) ?_
  show HV l mX12_sightLeans (dp + 1) 0 0 0 [some (.ref 82), some (.int x)] [] hSH I J (hRR lt tx) Q
  refine h_aload_n dX12_sightLeans_0 rfl ?_
  refine h_bipush dX12_sightLeans_1 cb_12 ?_
  refine h_cV1 dX12_sightLeans_3 k7_40 oVX12_ran rfl rfl ?_
  refine r_ran (j := j) h2 (by omega) ?_
  refine h_aload_n dX12_sightLeans_6 rfl ?_
  refine h_getI dX12_sightLeans_7 f_X12_370_10 rfl (ap_n (by decide) (by decide) h1) ?_
  refine h_aload_n dX12_sightLeans_10 rfl ?_
  refine h_getI dX12_sightLeans_11 f_X12_373_10 rfl (ap_n (by decide) (by decide) h0) ?_
  refine h_icmpne (tgt := 24) dX12_sightLeans_14 rfl (fun c_14 => ?_) (fun c_14 => ?_)
  · refine h_iload_n dX12_sightLeans_24 rfl ?_
    refine h_aload_n dX12_sightLeans_25 rfl ?_
    refine h_getI dX12_sightLeans_26 f_X12_370_10 rfl (ap_n (by decide) (by decide) h1) ?_
    refine h_aload_n dX12_sightLeans_29 rfl ?_
    refine h_getI dX12_sightLeans_30 f_X12_373_10 rfl (ap_n (by decide) (by decide) h0) ?_
    refine h_isub dX12_sightLeans_33 ?_
    refine h_idiv dX12_sightLeans_34 (fun z => c_14 (sub_eq0 z)) ?_
    refine h_ireturn dX12_sightLeans_35 rfl ?_
    exact hQ c_14
  · refine h_aload_n dX12_sightLeans_17 rfl ?_
    refine h_iconst dX12_sightLeans_18 ci_1 ?_
    refine h_putZ dX12_sightLeans_19 f_X12_382_10 p_X12_10_49 (fun h => by cases h) rfl (by decide) ?_
    refine h_iconst dX12_sightLeans_22 ci_0 ?_
    refine h_ireturn dX12_sightLeans_23 rfl ?_
    exact hP _ c_14
theorem r1_X12_leansIt {l : Launch} {dp : Nat} {n a x : Int32} {j : Nat} {I : hI} {J : hJ} {lt tx : Option Nat} {Q : hQ} (h4 : I 82 44 = nI 1) (h0 : I 82 45 = n) (h1 : I 82 46 = a) (h2 : I 82 48 = nI j) (hj : j + 1 ≤ 30) (hP : ∀ v, a = n → Q (some (.int v)) hSH (upI (ap I 110 82 48 j [12]) 82 49 (nI 1)) J (hRR lt tx)) (hQ : ¬ a = n → Q (some (.int (x / (a - n)))) hSH (ap I 110 82 48 j [12]) J (hRR lt tx))  : HC l mX12_leansIt (dp + 2) 0 0 [.ref 82, .int x] hSH I J (hRR lt tx) Q := by
  refine HC.of (by decide +kernel) rfl (Nat.le_of_ble_eq_true rfl) ?_
  show HV l mX12_leansIt (dp + 2) 0 0 0 [some (.ref 82), some (.int x)] [] hSH I J (hRR lt tx) Q
  refine h_aload_n dX12_leansIt_0 rfl ?_
  refine h_getI dX12_leansIt_1 f_X12_364_10 rfl h4 ?_
  refine h_bipush dX12_leansIt_4 cb_6 ?_
  refine h_icmpne (tgt := 22) dX12_leansIt_6 rfl (fun _ => ?_) (fun c => absurd c (by decide))
  refine h_aload_n dX12_leansIt_22 rfl ?_
  refine h_getI dX12_leansIt_23 f_X12_364_10 rfl h4 ?_
  refine h_iconst dX12_leansIt_26 ci_3 ?_
  refine h_icmpne (tgt := 46) dX12_leansIt_27 rfl (fun _ => ?_) (fun c => absurd c (by decide))
  refine h_aload_n dX12_leansIt_46 rfl ?_
  refine h_iload_n dX12_leansIt_47 rfl ?_
  refine h_cV1 dX12_leansIt_48 k7_56 oVX12_sightLeans rfl rfl ?_
  refine r1_X12_sightLeans (j := j) h4 h0 h1 h2 (by omega) (fun v0 hz => ?_) (fun hz => ?_)
  · refine h_ireturn dX12_leansIt_51 rfl ?_
    exact hP _ hz
  · refine h_ireturn dX12_leansIt_51 rfl ?_
    exact hQ hz
theorem r1_X12_sightTells {l : Launch} {dp : Nat} {n a x : Int32} {j : Nat} {I : hI} {J : hJ} {lt tx : Option Nat} {Q : hQ} (h4 : I 82 44 = nI 1) (h0 : I 82 45 = n) (h1 : I 82 46 = a) (h2 : I 82 48 = nI j) (hj : j + 4 ≤ 30) (hQ : Q (some (.int (((x + a) * nI 2 + nI 7) ^^^ n))) hSH (ap I 110 82 48 j [13, 20, 11, 10]) J (hRR lt tx))  : HC l mX12_sightTells (dp + 4) 0 0 [.ref 82, .int x] hSH I J (hRR lt tx) Q := by
  refine HC.of (by decide +kernel) rfl (Nat.le_of_ble_eq_true rfl) ?_
  show HV l mX12_sightTells (dp + 4) 0 0 0 [some (.ref 82), some (.int x)] [] hSH I J (hRR lt tx) Q
  refine h_aload_n dX12_sightTells_0 rfl ?_
  refine h_bipush dX12_sightTells_1 cb_13 ?_
  refine h_cV1 dX12_sightTells_3 k7_40 oVX12_ran rfl rfl ?_
  refine r_ran (j := j) h2 (by omega) ?_
  refine h_aload_n dX12_sightTells_6 rfl ?_
  refine h_iload_n dX12_sightTells_7 rfl ?_
  refine h_cV1 dX12_sightTells_8 k7_44 oVX12_bendsIt rfl rfl ?_
  refine r1_X12_bendsIt (j := j + 1) (ap_n (by decide) (by decide) h4) (ap_n (by decide) (by decide) h0) (ap_n (by decide) (by decide) h1) (ap_c (by decide) rfl h2) (by omega) ?_
  rw [ap_aq [13] [20, 11, 10] [13, 20, 11, 10] 1 rfl rfl]
  refine h_aload_n dX12_sightTells_11 rfl ?_
  refine h_getI dX12_sightTells_12 f_X12_373_10 rfl (ap_n (by decide) (by decide) h0) ?_
  refine h_ixor dX12_sightTells_15 ?_
  refine h_ireturn dX12_sightTells_16 rfl ?_
  exact hQ
theorem r1_X12_tellsIt {l : Launch} {dp : Nat} {n a x : Int32} {j : Nat} {I : hI} {J : hJ} {lt tx : Option Nat} {Q : hQ} (h4 : I 82 44 = nI 1) (h0 : I 82 45 = n) (h1 : I 82 46 = a) (h2 : I 82 48 = nI j) (hj : j + 4 ≤ 30) (hQ : Q (some (.int (((x + a) * nI 2 + nI 7) ^^^ n))) hSH (ap I 110 82 48 j [13, 20, 11, 10]) J (hRR lt tx))  : HC l mX12_tellsIt (dp + 5) 0 0 [.ref 82, .int x] hSH I J (hRR lt tx) Q := by
  refine HC.of (by decide +kernel) rfl (Nat.le_of_ble_eq_true rfl) ?_
  show HV l mX12_tellsIt (dp + 5) 0 0 0 [some (.ref 82), some (.int x), none] [] hSH I J (hRR lt tx) Q
  refine h_aload_n dX12_tellsIt_0 rfl ?_
  refine h_getI dX12_tellsIt_1 f_X12_364_10 rfl h4 ?_
  refine h_bipush dX12_tellsIt_4 cb_6 ?_
  refine h_icmpne (tgt := 32) dX12_tellsIt_6 rfl (fun _ => ?_) (fun c => absurd c (by decide))
  refine h_aload_n dX12_tellsIt_32 rfl ?_
  refine h_getI dX12_tellsIt_33 f_X12_364_10 rfl h4 ?_
  refine h_iconst dX12_tellsIt_36 ci_4 ?_
  refine h_icmpne (tgt := 63) dX12_tellsIt_37 rfl (fun _ => ?_) (fun c => absurd c (by decide))
  refine h_aload_n dX12_tellsIt_63 rfl ?_
  refine h_iload_n dX12_tellsIt_64 rfl ?_
  refine h_cV1 dX12_tellsIt_65 k7_64 oVX12_sightTells rfl rfl ?_
  refine r1_X12_sightTells (j := j) h4 h0 h1 h2 (by omega) ?_
  refine h_ireturn dX12_tellsIt_68 rfl ?_
  exact hQ
theorem r2_X12_seesIt {l : Launch} {dp : Nat} {n a x : Int32} {j : Nat} {I : hI} {J : hJ} {lt tx : Option Nat} {Q : hQ} (h4 : I 82 44 = nI 2) (h0 : I 82 45 = n) (h1 : I 82 46 = a) (h2 : I 82 48 = nI j) (hj : j + 2 ≤ 30) (hQ : Q (some (.int (x + a - n))) hSH (ap I 110 82 48 j [30, 10]) J (hRR lt tx))  : HC l mX12_seesIt (dp + 1) 0 0 [.ref 82, .int x] hSH I J (hRR lt tx) Q := by
  refine HC.of (by decide +kernel) rfl (Nat.le_of_ble_eq_true rfl) ?_
  show HV l mX12_seesIt (dp + 1) 0 0 0 [some (.ref 82), some (.int x), none] [] hSH I J (hRR lt tx) Q
  refine h_aload_n dX12_seesIt_0 rfl ?_
  refine h_getI dX12_seesIt_1 f_X12_364_10 rfl h4 ?_
  refine h_bipush dX12_seesIt_4 cb_6 ?_
  refine h_icmpne (tgt := 22) dX12_seesIt_6 rfl (fun _ => ?_) (fun c => absurd c (by decide))
  refine h_aload_n dX12_seesIt_22 rfl ?_
  refine h_getI dX12_seesIt_23 f_X12_364_10 rfl h4 ?_
  refine h_iconst dX12_seesIt_26 ci_4 ?_
  refine h_icmpne (tgt := 36) dX12_seesIt_27 rfl (fun _ => ?_) (fun c => absurd c (by decide))
  refine h_aload_n dX12_seesIt_36 rfl ?_
  refine h_getI dX12_seesIt_37 f_X12_364_10 rfl h4 ?_
  refine h_iconst dX12_seesIt_40 ci_5 ?_
  refine h_icmpne (tgt := 50) dX12_seesIt_41 rfl (fun _ => ?_) (fun c => absurd c (by decide))
  refine h_aload_n dX12_seesIt_50 rfl ?_
  refine h_getI dX12_seesIt_51 f_X12_364_10 rfl h4 ?_
  refine h_iconst dX12_seesIt_54 ci_2 ?_
  refine h_icmpeq (tgt := 66) dX12_seesIt_55 rfl (fun _ => ?_) (fun c => absurd (by decide) c)
  refine h_aload_n dX12_seesIt_66 rfl ?_
  refine h_bipush dX12_seesIt_67 cb_30 ?_
  refine h_cV1 dX12_seesIt_69 k7_40 oVX12_ran rfl rfl ?_
  refine r_ran (j := j) h2 (by omega) ?_
  refine h_aload_n dX12_seesIt_72 rfl ?_
  refine h_bipush dX12_seesIt_73 cb_10 ?_
  refine h_cV1 dX12_seesIt_75 k7_40 oVX12_ran rfl rfl ?_
  refine r_ran (j := j + 1) (ap_c (by decide) rfl h2) (by omega) ?_
  rw [ap_aq [30] [10] [30, 10] 1 rfl rfl]
  refine h_iload_n dX12_seesIt_78 rfl ?_
  refine h_aload_n dX12_seesIt_79 rfl ?_
  refine h_getI dX12_seesIt_80 f_X12_370_10 rfl (ap_n (by decide) (by decide) h1) ?_
  refine h_iadd dX12_seesIt_83 ?_
  refine h_istore_n dX12_seesIt_84 (Nat.le_of_ble_eq_true rfl) ?_
  refine h_iload_n dX12_seesIt_85 rfl ?_
  refine h_aload_n dX12_seesIt_86 rfl ?_
  refine h_getI dX12_seesIt_87 f_X12_364_10 rfl (ap_n (by decide) (by decide) h4) ?_
  refine h_iconst dX12_seesIt_90 ci_2 ?_
  refine h_icmpeq (tgt := 102) dX12_seesIt_91 rfl (fun _ => ?_) (fun c => absurd (by decide) c)
  refine h_aload_n dX12_seesIt_102 rfl ?_
  refine h_getI dX12_seesIt_103 f_X12_373_10 rfl (ap_n (by decide) (by decide) h0) ?_
  refine h_goto (tgt := 110) dX12_seesIt_106 rfl ?_
  refine h_isub dX12_seesIt_110 ?_
  refine h_istore_n dX12_seesIt_111 (Nat.le_of_ble_eq_true rfl) ?_
  refine h_aload_n dX12_seesIt_112 rfl ?_
  refine h_getI dX12_seesIt_113 f_X12_364_10 rfl (ap_n (by decide) (by decide) h4) ?_
  refine h_iconst dX12_seesIt_116 ci_4 ?_
  refine h_icmpne (tgt := 126) dX12_seesIt_117 rfl (fun _ => ?_) (fun c => absurd c (by decide))
  refine h_aload_n dX12_seesIt_126 rfl ?_
  refine h_getI dX12_seesIt_127 f_X12_364_10 rfl (ap_n (by decide) (by decide) h4) ?_
  refine h_iconst dX12_seesIt_130 ci_5 ?_
  refine h_icmpne (tgt := 140) dX12_seesIt_131 rfl (fun _ => ?_) (fun c => absurd c (by decide))
  refine h_iload_n dX12_seesIt_140 rfl ?_
  refine h_ireturn dX12_seesIt_141 rfl ?_
  exact hQ
theorem r2_X12_sightBends {l : Launch} {dp : Nat} {n a x : Int32} {j : Nat} {I : hI} {J : hJ} {lt tx : Option Nat} {Q : hQ} (h4 : I 82 44 = nI 2) (h0 : I 82 45 = n) (h1 : I 82 46 = a) (h2 : I 82 48 = nI j) (hj : j + 3 ≤ 30) (hQ : Q (some (.int ((x + a - n) * nI 2))) hSH (ap I 110 82 48 j [11, 30, 10]) J (hRR lt tx))  : HC l mX12_sightBends (dp + 2) 0 0 [.ref 82, .int x] hSH I J (hRR lt tx) Q := by
  refine HC.of (by decide +kernel) rfl (Nat.le_of_ble_eq_true rfl) ?_
  show HV l mX12_sightBends (dp + 2) 0 0 0 [some (.ref 82), some (.int x)] [] hSH I J (hRR lt tx) Q
  refine h_aload_n dX12_sightBends_0 rfl ?_
  refine h_bipush dX12_sightBends_1 cb_11 ?_
  refine h_cV1 dX12_sightBends_3 k7_40 oVX12_ran rfl rfl ?_
  refine r_ran (j := j) h2 (by omega) ?_
  refine h_aload_n dX12_sightBends_6 rfl ?_
  refine h_iload_n dX12_sightBends_7 rfl ?_
  refine h_cV1 dX12_sightBends_8 k7_36 oVX12_seesIt rfl rfl ?_
  refine r2_X12_seesIt (j := j + 1) (ap_n (by decide) (by decide) h4) (ap_n (by decide) (by decide) h0) (ap_n (by decide) (by decide) h1) (ap_c (by decide) rfl h2) (by omega) ?_
  rw [ap_aq [11] [30, 10] [11, 30, 10] 1 rfl rfl]
  refine h_iconst dX12_sightBends_11 ci_2 ?_
  refine h_imul dX12_sightBends_12 ?_
  refine h_ireturn dX12_sightBends_13 rfl ?_
  exact hQ
theorem r2_X12_bendsIt {l : Launch} {dp : Nat} {n a x : Int32} {j : Nat} {I : hI} {J : hJ} {lt tx : Option Nat} {Q : hQ} (h4 : I 82 44 = nI 2) (h0 : I 82 45 = n) (h1 : I 82 46 = a) (h2 : I 82 48 = nI j) (hj : j + 3 ≤ 30) (hQ : Q (some (.int ((x + a - n) * nI 2))) hSH (ap I 110 82 48 j [11, 30, 10]) J (hRR lt tx))  : HC l mX12_bendsIt (dp + 3) 0 0 [.ref 82, .int x] hSH I J (hRR lt tx) Q := by
  refine HC.of (by decide +kernel) rfl (Nat.le_of_ble_eq_true rfl) ?_
  show HV l mX12_bendsIt (dp + 3) 0 0 0 [some (.ref 82), some (.int x), none] [] hSH I J (hRR lt tx) Q
  refine h_aload_n dX12_bendsIt_0 rfl ?_
  refine h_getI dX12_bendsIt_1 f_X12_364_10 rfl h4 ?_
  refine h_tableIn (off := 95) (tgt := 99) dX12_bendsIt_4 (by decide) (by decide) (by decide) rfl ?_
  refine h_aload_n dX12_bendsIt_99 rfl ?_
  refine h_iload_n dX12_bendsIt_100 rfl ?_
  refine h_cV1 dX12_bendsIt_101 k7_48 oVX12_sightBends rfl rfl ?_
  refine r2_X12_sightBends (j := j) h4 h0 h1 h2 (by omega) ?_
  refine h_ireturn dX12_bendsIt_104 rfl ?_
  exact hQ
theorem r2_X12_sightLeans {l : Launch} {dp : Nat} {n a x : Int32} {j : Nat} {I : hI} {J : hJ} {lt tx : Option Nat} {Q : hQ} (h4 : I 82 44 = nI 2) (h0 : I 82 45 = n) (h1 : I 82 46 = a) (h2 : I 82 48 = nI j) (hj : j + 1 ≤ 30) (hP : ∀ v, a = n → Q (some (.int v)) hSH (upI (ap I 110 82 48 j [12]) 82 49 (nI 1)) J (hRR lt tx)) (hQ : ¬ a = n → Q (some (.int (x / (a - n)))) hSH (ap I 110 82 48 j [12]) J (hRR lt tx))  : HC l mX12_sightLeans (dp + 1) 0 0 [.ref 82, .int x] hSH I J (hRR lt tx) Q := by
  refine HC.of (by decide +kernel) rfl (Nat.le_of_ble_eq_true rfl) ?_
  show HV l mX12_sightLeans (dp + 1) 0 0 0 [some (.ref 82), some (.int x)] [] hSH I J (hRR lt tx) Q
  refine h_aload_n dX12_sightLeans_0 rfl ?_
  refine h_bipush dX12_sightLeans_1 cb_12 ?_
  refine h_cV1 dX12_sightLeans_3 k7_40 oVX12_ran rfl rfl ?_
  refine r_ran (j := j) h2 (by omega) ?_
  refine h_aload_n dX12_sightLeans_6 rfl ?_
  refine h_getI dX12_sightLeans_7 f_X12_370_10 rfl (ap_n (by decide) (by decide) h1) ?_
  refine h_aload_n dX12_sightLeans_10 rfl ?_
  refine h_getI dX12_sightLeans_11 f_X12_373_10 rfl (ap_n (by decide) (by decide) h0) ?_
  refine h_icmpne (tgt := 24) dX12_sightLeans_14 rfl (fun c_14 => ?_) (fun c_14 => ?_)
  · refine h_iload_n dX12_sightLeans_24 rfl ?_
    refine h_aload_n dX12_sightLeans_25 rfl ?_
    refine h_getI dX12_sightLeans_26 f_X12_370_10 rfl (ap_n (by decide) (by decide) h1) ?_
    refine h_aload_n dX12_sightLeans_29 rfl ?_
    refine h_getI dX12_sightLeans_30 f_X12_373_10 rfl (ap_n (by decide) (by decide) h0) ?_
    refine h_isub dX12_sightLeans_33 ?_
    refine h_idiv dX12_sightLeans_34 (fun z => c_14 (sub_eq0 z)) ?_
    refine h_ireturn dX12_sightLeans_35 rfl ?_
    exact hQ c_14
  · refine h_aload_n dX12_sightLeans_17 rfl ?_
    refine h_iconst dX12_sightLeans_18 ci_1 ?_
    refine h_putZ dX12_sightLeans_19 f_X12_382_10 p_X12_10_49 (fun h => by cases h) rfl (by decide) ?_
    refine h_iconst dX12_sightLeans_22 ci_0 ?_
    refine h_ireturn dX12_sightLeans_23 rfl ?_
    exact hP _ c_14
theorem r2_X12_leansIt {l : Launch} {dp : Nat} {n a x : Int32} {j : Nat} {I : hI} {J : hJ} {lt tx : Option Nat} {Q : hQ} (h4 : I 82 44 = nI 2) (h0 : I 82 45 = n) (h1 : I 82 46 = a) (h2 : I 82 48 = nI j) (hj : j + 1 ≤ 30) (hP : ∀ v, a = n → Q (some (.int v)) hSH (upI (ap I 110 82 48 j [12]) 82 49 (nI 1)) J (hRR lt tx)) (hQ : ¬ a = n → Q (some (.int (x / (a - n)))) hSH (ap I 110 82 48 j [12]) J (hRR lt tx))  : HC l mX12_leansIt (dp + 2) 0 0 [.ref 82, .int x] hSH I J (hRR lt tx) Q := by
  refine HC.of (by decide +kernel) rfl (Nat.le_of_ble_eq_true rfl) ?_
  show HV l mX12_leansIt (dp + 2) 0 0 0 [some (.ref 82), some (.int x)] [] hSH I J (hRR lt tx) Q
  refine h_aload_n dX12_leansIt_0 rfl ?_
  refine h_getI dX12_leansIt_1 f_X12_364_10 rfl h4 ?_
  refine h_bipush dX12_leansIt_4 cb_6 ?_
  refine h_icmpne (tgt := 22) dX12_leansIt_6 rfl (fun _ => ?_) (fun c => absurd c (by decide))
  refine h_aload_n dX12_leansIt_22 rfl ?_
  refine h_getI dX12_leansIt_23 f_X12_364_10 rfl h4 ?_
  refine h_iconst dX12_leansIt_26 ci_3 ?_
  refine h_icmpne (tgt := 46) dX12_leansIt_27 rfl (fun _ => ?_) (fun c => absurd c (by decide))
  refine h_aload_n dX12_leansIt_46 rfl ?_
  refine h_iload_n dX12_leansIt_47 rfl ?_
  refine h_cV1 dX12_leansIt_48 k7_56 oVX12_sightLeans rfl rfl ?_
  refine r2_X12_sightLeans (j := j) h4 h0 h1 h2 (by omega) (fun v0 hz => ?_) (fun hz => ?_)
  · refine h_ireturn dX12_leansIt_51 rfl ?_
    exact hP _ hz
  · refine h_ireturn dX12_leansIt_51 rfl ?_
    exact hQ hz
theorem r2_X12_sightTells {l : Launch} {dp : Nat} {n a x : Int32} {j : Nat} {I : hI} {J : hJ} {lt tx : Option Nat} {Q : hQ} (h4 : I 82 44 = nI 2) (h0 : I 82 45 = n) (h1 : I 82 46 = a) (h2 : I 82 48 = nI j) (hj : j + 4 ≤ 30) (hQ : Q (some (.int (((x + a - n) * nI 2) ^^^ n))) hSH (ap I 110 82 48 j [13, 11, 30, 10]) J (hRR lt tx))  : HC l mX12_sightTells (dp + 4) 0 0 [.ref 82, .int x] hSH I J (hRR lt tx) Q := by
  refine HC.of (by decide +kernel) rfl (Nat.le_of_ble_eq_true rfl) ?_
  show HV l mX12_sightTells (dp + 4) 0 0 0 [some (.ref 82), some (.int x)] [] hSH I J (hRR lt tx) Q
  refine h_aload_n dX12_sightTells_0 rfl ?_
  refine h_bipush dX12_sightTells_1 cb_13 ?_
  refine h_cV1 dX12_sightTells_3 k7_40 oVX12_ran rfl rfl ?_
  refine r_ran (j := j) h2 (by omega) ?_
  refine h_aload_n dX12_sightTells_6 rfl ?_
  refine h_iload_n dX12_sightTells_7 rfl ?_
  refine h_cV1 dX12_sightTells_8 k7_44 oVX12_bendsIt rfl rfl ?_
  refine r2_X12_bendsIt (j := j + 1) (ap_n (by decide) (by decide) h4) (ap_n (by decide) (by decide) h0) (ap_n (by decide) (by decide) h1) (ap_c (by decide) rfl h2) (by omega) ?_
  rw [ap_aq [13] [11, 30, 10] [13, 11, 30, 10] 1 rfl rfl]
  refine h_aload_n dX12_sightTells_11 rfl ?_
  refine h_getI dX12_sightTells_12 f_X12_373_10 rfl (ap_n (by decide) (by decide) h0) ?_
  refine h_ixor dX12_sightTells_15 ?_
  refine h_ireturn dX12_sightTells_16 rfl ?_
  exact hQ
theorem r2_X12_tellsIt {l : Launch} {dp : Nat} {n a x : Int32} {j : Nat} {I : hI} {J : hJ} {lt tx : Option Nat} {Q : hQ} (h4 : I 82 44 = nI 2) (h0 : I 82 45 = n) (h1 : I 82 46 = a) (h2 : I 82 48 = nI j) (hj : j + 4 ≤ 30) (hQ : Q (some (.int (((x + a - n) * nI 2) ^^^ n))) hSH (ap I 110 82 48 j [13, 11, 30, 10]) J (hRR lt tx))  : HC l mX12_tellsIt (dp + 5) 0 0 [.ref 82, .int x] hSH I J (hRR lt tx) Q := by
  refine HC.of (by decide +kernel) rfl (Nat.le_of_ble_eq_true rfl) ?_
  show HV l mX12_tellsIt (dp + 5) 0 0 0 [some (.ref 82), some (.int x), none] [] hSH I J (hRR lt tx) Q
  refine h_aload_n dX12_tellsIt_0 rfl ?_
  refine h_getI dX12_tellsIt_1 f_X12_364_10 rfl h4 ?_
  refine h_bipush dX12_tellsIt_4 cb_6 ?_
  refine h_icmpne (tgt := 32) dX12_tellsIt_6 rfl (fun _ => ?_) (fun c => absurd c (by decide))
  refine h_aload_n dX12_tellsIt_32 rfl ?_
  refine h_getI dX12_tellsIt_33 f_X12_364_10 rfl h4 ?_
  refine h_iconst dX12_tellsIt_36 ci_4 ?_
  refine h_icmpne (tgt := 63) dX12_tellsIt_37 rfl (fun _ => ?_) (fun c => absurd c (by decide))
  refine h_aload_n dX12_tellsIt_63 rfl ?_
  refine h_iload_n dX12_tellsIt_64 rfl ?_
  refine h_cV1 dX12_tellsIt_65 k7_64 oVX12_sightTells rfl rfl ?_
  refine r2_X12_sightTells (j := j) h4 h0 h1 h2 (by omega) ?_
  refine h_ireturn dX12_tellsIt_68 rfl ?_
  exact hQ
theorem r3_X12_seesIt {l : Launch} {dp : Nat} {n a x : Int32} {j : Nat} {I : hI} {J : hJ} {lt tx : Option Nat} {Q : hQ} (h4 : I 82 44 = nI 3) (h0 : I 82 45 = n) (h1 : I 82 46 = a) (h2 : I 82 48 = nI j) (hj : j + 1 ≤ 30) (hQ : Q (some (.int (x + a))) hSH (ap I 110 82 48 j [10]) J (hRR lt tx))  : HC l mX12_seesIt (dp + 1) 0 0 [.ref 82, .int x] hSH I J (hRR lt tx) Q := by
  refine HC.of (by decide +kernel) rfl (Nat.le_of_ble_eq_true rfl) ?_
  show HV l mX12_seesIt (dp + 1) 0 0 0 [some (.ref 82), some (.int x), none] [] hSH I J (hRR lt tx) Q
  refine h_aload_n dX12_seesIt_0 rfl ?_
  refine h_getI dX12_seesIt_1 f_X12_364_10 rfl h4 ?_
  refine h_bipush dX12_seesIt_4 cb_6 ?_
  refine h_icmpne (tgt := 22) dX12_seesIt_6 rfl (fun _ => ?_) (fun c => absurd c (by decide))
  refine h_aload_n dX12_seesIt_22 rfl ?_
  refine h_getI dX12_seesIt_23 f_X12_364_10 rfl h4 ?_
  refine h_iconst dX12_seesIt_26 ci_4 ?_
  refine h_icmpne (tgt := 36) dX12_seesIt_27 rfl (fun _ => ?_) (fun c => absurd c (by decide))
  refine h_aload_n dX12_seesIt_36 rfl ?_
  refine h_getI dX12_seesIt_37 f_X12_364_10 rfl h4 ?_
  refine h_iconst dX12_seesIt_40 ci_5 ?_
  refine h_icmpne (tgt := 50) dX12_seesIt_41 rfl (fun _ => ?_) (fun c => absurd c (by decide))
  refine h_aload_n dX12_seesIt_50 rfl ?_
  refine h_getI dX12_seesIt_51 f_X12_364_10 rfl h4 ?_
  refine h_iconst dX12_seesIt_54 ci_2 ?_
  refine h_icmpeq (tgt := 66) dX12_seesIt_55 rfl (fun c => absurd c (by decide)) (fun _ => ?_)
  refine h_aload_n dX12_seesIt_58 rfl ?_
  refine h_getI dX12_seesIt_59 f_X12_364_10 rfl h4 ?_
  refine h_iconst dX12_seesIt_62 ci_5 ?_
  refine h_icmpne (tgt := 72) dX12_seesIt_63 rfl (fun _ => ?_) (fun c => absurd c (by decide))
  refine h_aload_n dX12_seesIt_72 rfl ?_
  refine h_bipush dX12_seesIt_73 cb_10 ?_
  refine h_cV1 dX12_seesIt_75 k7_40 oVX12_ran rfl rfl ?_
  refine r_ran (j := j) h2 (by omega) ?_
  refine h_iload_n dX12_seesIt_78 rfl ?_
  refine h_aload_n dX12_seesIt_79 rfl ?_
  refine h_getI dX12_seesIt_80 f_X12_370_10 rfl (ap_n (by decide) (by decide) h1) ?_
  refine h_iadd dX12_seesIt_83 ?_
  refine h_istore_n dX12_seesIt_84 (Nat.le_of_ble_eq_true rfl) ?_
  refine h_iload_n dX12_seesIt_85 rfl ?_
  refine h_aload_n dX12_seesIt_86 rfl ?_
  refine h_getI dX12_seesIt_87 f_X12_364_10 rfl (ap_n (by decide) (by decide) h4) ?_
  refine h_iconst dX12_seesIt_90 ci_2 ?_
  refine h_icmpeq (tgt := 102) dX12_seesIt_91 rfl (fun c => absurd c (by decide)) (fun _ => ?_)
  refine h_aload_n dX12_seesIt_94 rfl ?_
  refine h_getI dX12_seesIt_95 f_X12_364_10 rfl (ap_n (by decide) (by decide) h4) ?_
  refine h_iconst dX12_seesIt_98 ci_5 ?_
  refine h_icmpne (tgt := 109) dX12_seesIt_99 rfl (fun _ => ?_) (fun c => absurd c (by decide))
  refine h_iconst dX12_seesIt_109 ci_0 ?_
  refine h_isub dX12_seesIt_110 ?_
  refine h_istore_n dX12_seesIt_111 (Nat.le_of_ble_eq_true rfl) ?_
  refine h_aload_n dX12_seesIt_112 rfl ?_
  refine h_getI dX12_seesIt_113 f_X12_364_10 rfl (ap_n (by decide) (by decide) h4) ?_
  refine h_iconst dX12_seesIt_116 ci_4 ?_
  refine h_icmpne (tgt := 126) dX12_seesIt_117 rfl (fun _ => ?_) (fun c => absurd c (by decide))
  refine h_aload_n dX12_seesIt_126 rfl ?_
  refine h_getI dX12_seesIt_127 f_X12_364_10 rfl (ap_n (by decide) (by decide) h4) ?_
  refine h_iconst dX12_seesIt_130 ci_5 ?_
  refine h_icmpne (tgt := 140) dX12_seesIt_131 rfl (fun _ => ?_) (fun c => absurd c (by decide))
  refine h_iload_n dX12_seesIt_140 rfl ?_
  refine h_ireturn dX12_seesIt_141 rfl ?_
  rw [sub0]
  exact hQ
theorem r3_X12_sightBends {l : Launch} {dp : Nat} {n a x : Int32} {j : Nat} {I : hI} {J : hJ} {lt tx : Option Nat} {Q : hQ} (h4 : I 82 44 = nI 3) (h0 : I 82 45 = n) (h1 : I 82 46 = a) (h2 : I 82 48 = nI j) (hj : j + 2 ≤ 30) (hQ : Q (some (.int ((x + a) * nI 2))) hSH (ap I 110 82 48 j [11, 10]) J (hRR lt tx))  : HC l mX12_sightBends (dp + 2) 0 0 [.ref 82, .int x] hSH I J (hRR lt tx) Q := by
  refine HC.of (by decide +kernel) rfl (Nat.le_of_ble_eq_true rfl) ?_
  show HV l mX12_sightBends (dp + 2) 0 0 0 [some (.ref 82), some (.int x)] [] hSH I J (hRR lt tx) Q
  refine h_aload_n dX12_sightBends_0 rfl ?_
  refine h_bipush dX12_sightBends_1 cb_11 ?_
  refine h_cV1 dX12_sightBends_3 k7_40 oVX12_ran rfl rfl ?_
  refine r_ran (j := j) h2 (by omega) ?_
  refine h_aload_n dX12_sightBends_6 rfl ?_
  refine h_iload_n dX12_sightBends_7 rfl ?_
  refine h_cV1 dX12_sightBends_8 k7_36 oVX12_seesIt rfl rfl ?_
  refine r3_X12_seesIt (j := j + 1) (ap_n (by decide) (by decide) h4) (ap_n (by decide) (by decide) h0) (ap_n (by decide) (by decide) h1) (ap_c (by decide) rfl h2) (by omega) ?_
  rw [ap_aq [11] [10] [11, 10] 1 rfl rfl]
  refine h_iconst dX12_sightBends_11 ci_2 ?_
  refine h_imul dX12_sightBends_12 ?_
  refine h_ireturn dX12_sightBends_13 rfl ?_
  exact hQ
theorem r3_X12_bendsIt {l : Launch} {dp : Nat} {n a x : Int32} {j : Nat} {I : hI} {J : hJ} {lt tx : Option Nat} {Q : hQ} (h4 : I 82 44 = nI 3) (h0 : I 82 45 = n) (h1 : I 82 46 = a) (h2 : I 82 48 = nI j) (hj : j + 2 ≤ 30) (hQ : Q (some (.int ((x + a) * nI 2))) hSH (ap I 110 82 48 j [11, 10]) J (hRR lt tx))  : HC l mX12_bendsIt (dp + 3) 0 0 [.ref 82, .int x] hSH I J (hRR lt tx) Q := by
  refine HC.of (by decide +kernel) rfl (Nat.le_of_ble_eq_true rfl) ?_
  show HV l mX12_bendsIt (dp + 3) 0 0 0 [some (.ref 82), some (.int x), none] [] hSH I J (hRR lt tx) Q
  refine h_aload_n dX12_bendsIt_0 rfl ?_
  refine h_getI dX12_bendsIt_1 f_X12_364_10 rfl h4 ?_
  refine h_tableIn (off := 95) (tgt := 99) dX12_bendsIt_4 (by decide) (by decide) (by decide) rfl ?_
  refine h_aload_n dX12_bendsIt_99 rfl ?_
  refine h_iload_n dX12_bendsIt_100 rfl ?_
  refine h_cV1 dX12_bendsIt_101 k7_48 oVX12_sightBends rfl rfl ?_
  refine r3_X12_sightBends (j := j) h4 h0 h1 h2 (by omega) ?_
  refine h_ireturn dX12_bendsIt_104 rfl ?_
  exact hQ
theorem r3_X12_sightLeans {l : Launch} {dp : Nat} {n a x : Int32} {j : Nat} {I : hI} {J : hJ} {lt tx : Option Nat} {Q : hQ} (h4 : I 82 44 = nI 3) (h0 : I 82 45 = n) (h1 : I 82 46 = a) (h2 : I 82 48 = nI j) (hj : j + 1 ≤ 30) (hP : ∀ v, a = n → Q (some (.int v)) hSH (upI (ap I 110 82 48 j [12]) 82 49 (nI 1)) J (hRR lt tx)) (hQ : ¬ a = n → Q (some (.int (x / (a - n)))) hSH (ap I 110 82 48 j [12]) J (hRR lt tx))  : HC l mX12_sightLeans (dp + 1) 0 0 [.ref 82, .int x] hSH I J (hRR lt tx) Q := by
  refine HC.of (by decide +kernel) rfl (Nat.le_of_ble_eq_true rfl) ?_
  show HV l mX12_sightLeans (dp + 1) 0 0 0 [some (.ref 82), some (.int x)] [] hSH I J (hRR lt tx) Q
  refine h_aload_n dX12_sightLeans_0 rfl ?_
  refine h_bipush dX12_sightLeans_1 cb_12 ?_
  refine h_cV1 dX12_sightLeans_3 k7_40 oVX12_ran rfl rfl ?_
  refine r_ran (j := j) h2 (by omega) ?_
  refine h_aload_n dX12_sightLeans_6 rfl ?_
  refine h_getI dX12_sightLeans_7 f_X12_370_10 rfl (ap_n (by decide) (by decide) h1) ?_
  refine h_aload_n dX12_sightLeans_10 rfl ?_
  refine h_getI dX12_sightLeans_11 f_X12_373_10 rfl (ap_n (by decide) (by decide) h0) ?_
  refine h_icmpne (tgt := 24) dX12_sightLeans_14 rfl (fun c_14 => ?_) (fun c_14 => ?_)
  · refine h_iload_n dX12_sightLeans_24 rfl ?_
    refine h_aload_n dX12_sightLeans_25 rfl ?_
    refine h_getI dX12_sightLeans_26 f_X12_370_10 rfl (ap_n (by decide) (by decide) h1) ?_
    refine h_aload_n dX12_sightLeans_29 rfl ?_
    refine h_getI dX12_sightLeans_30 f_X12_373_10 rfl (ap_n (by decide) (by decide) h0) ?_
    refine h_isub dX12_sightLeans_33 ?_
    refine h_idiv dX12_sightLeans_34 (fun z => c_14 (sub_eq0 z)) ?_
    refine h_ireturn dX12_sightLeans_35 rfl ?_
    exact hQ c_14
  · refine h_aload_n dX12_sightLeans_17 rfl ?_
    refine h_iconst dX12_sightLeans_18 ci_1 ?_
    refine h_putZ dX12_sightLeans_19 f_X12_382_10 p_X12_10_49 (fun h => by cases h) rfl (by decide) ?_
    refine h_iconst dX12_sightLeans_22 ci_0 ?_
    refine h_ireturn dX12_sightLeans_23 rfl ?_
    exact hP _ c_14
theorem r3_X12_leansIt {l : Launch} {dp : Nat} {n a x : Int32} {j : Nat} {I : hI} {J : hJ} {lt tx : Option Nat} {Q : hQ} (h4 : I 82 44 = nI 3) (h0 : I 82 45 = n) (h1 : I 82 46 = a) (h2 : I 82 48 = nI j) (hj : j + 2 ≤ 30) (hP : ∀ v, a = n → Q (some (.int v)) hSH (upI (ap I 110 82 48 j [40, 12]) 82 49 (nI 1)) J (hRR lt tx)) (hQ : ¬ a = n → Q (some (.int ((x + nI 1) / (a - n) * nI 2))) hSH (ap I 110 82 48 j [40, 12]) J (hRR lt tx))  : HC l mX12_leansIt (dp + 2) 0 0 [.ref 82, .int x] hSH I J (hRR lt tx) Q := by
  refine HC.of (by decide +kernel) rfl (Nat.le_of_ble_eq_true rfl) ?_
  show HV l mX12_leansIt (dp + 2) 0 0 0 [some (.ref 82), some (.int x)] [] hSH I J (hRR lt tx) Q
  refine h_aload_n dX12_leansIt_0 rfl ?_
  refine h_getI dX12_leansIt_1 f_X12_364_10 rfl h4 ?_
  refine h_bipush dX12_leansIt_4 cb_6 ?_
  refine h_icmpne (tgt := 22) dX12_leansIt_6 rfl (fun _ => ?_) (fun c => absurd c (by decide))
  refine h_aload_n dX12_leansIt_22 rfl ?_
  refine h_getI dX12_leansIt_23 f_X12_364_10 rfl h4 ?_
  refine h_iconst dX12_leansIt_26 ci_3 ?_
  refine h_icmpne (tgt := 46) dX12_leansIt_27 rfl (fun c => absurd (by decide) c) (fun _ => ?_)
  refine h_aload_n dX12_leansIt_30 rfl ?_
  refine h_bipush dX12_leansIt_31 cb_40 ?_
  refine h_cV1 dX12_leansIt_33 k7_40 oVX12_ran rfl rfl ?_
  refine r_ran (j := j) h2 (by omega) ?_
  refine h_aload_n dX12_leansIt_36 rfl ?_
  refine h_iload_n dX12_leansIt_37 rfl ?_
  refine h_iconst dX12_leansIt_38 ci_1 ?_
  refine h_iadd dX12_leansIt_39 ?_
  refine h_cV1 dX12_leansIt_40 k7_56 oVX12_sightLeans rfl rfl ?_
  refine r3_X12_sightLeans (j := j + 1) (ap_n (by decide) (by decide) h4) (ap_n (by decide) (by decide) h0) (ap_n (by decide) (by decide) h1) (ap_c (by decide) rfl h2) (by omega) (fun v0 hz => ?_) (fun hz => ?_)
  · rw [ap_aq [40] [12] [40, 12] 1 rfl rfl]
    refine h_iconst dX12_leansIt_43 ci_2 ?_
    refine h_imul dX12_leansIt_44 ?_
    refine h_ireturn dX12_leansIt_45 rfl ?_
    exact hP _ hz
  · rw [ap_aq [40] [12] [40, 12] 1 rfl rfl]
    refine h_iconst dX12_leansIt_43 ci_2 ?_
    refine h_imul dX12_leansIt_44 ?_
    refine h_ireturn dX12_leansIt_45 rfl ?_
    exact hQ hz
theorem r3_X12_sightTells {l : Launch} {dp : Nat} {n a x : Int32} {j : Nat} {I : hI} {J : hJ} {lt tx : Option Nat} {Q : hQ} (h4 : I 82 44 = nI 3) (h0 : I 82 45 = n) (h1 : I 82 46 = a) (h2 : I 82 48 = nI j) (hj : j + 3 ≤ 30) (hQ : Q (some (.int (((x + a) * nI 2) ^^^ n))) hSH (ap I 110 82 48 j [13, 11, 10]) J (hRR lt tx))  : HC l mX12_sightTells (dp + 4) 0 0 [.ref 82, .int x] hSH I J (hRR lt tx) Q := by
  refine HC.of (by decide +kernel) rfl (Nat.le_of_ble_eq_true rfl) ?_
  show HV l mX12_sightTells (dp + 4) 0 0 0 [some (.ref 82), some (.int x)] [] hSH I J (hRR lt tx) Q
  refine h_aload_n dX12_sightTells_0 rfl ?_
  refine h_bipush dX12_sightTells_1 cb_13 ?_
  refine h_cV1 dX12_sightTells_3 k7_40 oVX12_ran rfl rfl ?_
  refine r_ran (j := j) h2 (by omega) ?_
  refine h_aload_n dX12_sightTells_6 rfl ?_
  refine h_iload_n dX12_sightTells_7 rfl ?_
  refine h_cV1 dX12_sightTells_8 k7_44 oVX12_bendsIt rfl rfl ?_
  refine r3_X12_bendsIt (j := j + 1) (ap_n (by decide) (by decide) h4) (ap_n (by decide) (by decide) h0) (ap_n (by decide) (by decide) h1) (ap_c (by decide) rfl h2) (by omega) ?_
  rw [ap_aq [13] [11, 10] [13, 11, 10] 1 rfl rfl]
  refine h_aload_n dX12_sightTells_11 rfl ?_
  refine h_getI dX12_sightTells_12 f_X12_373_10 rfl (ap_n (by decide) (by decide) h0) ?_
  refine h_ixor dX12_sightTells_15 ?_
  refine h_ireturn dX12_sightTells_16 rfl ?_
  exact hQ
theorem r3_X12_tellsIt {l : Launch} {dp : Nat} {n a x : Int32} {j : Nat} {I : hI} {J : hJ} {lt tx : Option Nat} {Q : hQ} (h4 : I 82 44 = nI 3) (h0 : I 82 45 = n) (h1 : I 82 46 = a) (h2 : I 82 48 = nI j) (hj : j + 3 ≤ 30) (hQ : Q (some (.int (((x + a) * nI 2) ^^^ n))) hSH (ap I 110 82 48 j [13, 11, 10]) J (hRR lt tx))  : HC l mX12_tellsIt (dp + 5) 0 0 [.ref 82, .int x] hSH I J (hRR lt tx) Q := by
  refine HC.of (by decide +kernel) rfl (Nat.le_of_ble_eq_true rfl) ?_
  show HV l mX12_tellsIt (dp + 5) 0 0 0 [some (.ref 82), some (.int x), none] [] hSH I J (hRR lt tx) Q
  refine h_aload_n dX12_tellsIt_0 rfl ?_
  refine h_getI dX12_tellsIt_1 f_X12_364_10 rfl h4 ?_
  refine h_bipush dX12_tellsIt_4 cb_6 ?_
  refine h_icmpne (tgt := 32) dX12_tellsIt_6 rfl (fun _ => ?_) (fun c => absurd c (by decide))
  refine h_aload_n dX12_tellsIt_32 rfl ?_
  refine h_getI dX12_tellsIt_33 f_X12_364_10 rfl h4 ?_
  refine h_iconst dX12_tellsIt_36 ci_4 ?_
  refine h_icmpne (tgt := 63) dX12_tellsIt_37 rfl (fun _ => ?_) (fun c => absurd c (by decide))
  refine h_aload_n dX12_tellsIt_63 rfl ?_
  refine h_iload_n dX12_tellsIt_64 rfl ?_
  refine h_cV1 dX12_tellsIt_65 k7_64 oVX12_sightTells rfl rfl ?_
  refine r3_X12_sightTells (j := j) h4 h0 h1 h2 (by omega) ?_
  refine h_ireturn dX12_tellsIt_68 rfl ?_
  exact hQ
theorem r4_X12_seesIt {l : Launch} {dp : Nat} {n a x : Int32} {j : Nat} {I : hI} {J : hJ} {lt tx : Option Nat} {Q : hQ} (h4 : I 82 44 = nI 4) (h0 : I 82 45 = n) (h1 : I 82 46 = a) (h2 : I 82 48 = nI j) (hj : j + 2 ≤ 30) (hQ : Q (some (.int ((x + a) ^^^ nI 3))) hSH (ap I 110 82 48 j [50, 10]) J (hRR lt tx))  : HC l mX12_seesIt (dp + 1) 0 0 [.ref 82, .int x] hSH I J (hRR lt tx) Q := by
  refine HC.of (by decide +kernel) rfl (Nat.le_of_ble_eq_true rfl) ?_
  show HV l mX12_seesIt (dp + 1) 0 0 0 [some (.ref 82), some (.int x), none] [] hSH I J (hRR lt tx) Q
  refine h_aload_n dX12_seesIt_0 rfl ?_
  refine h_getI dX12_seesIt_1 f_X12_364_10 rfl h4 ?_
  refine h_bipush dX12_seesIt_4 cb_6 ?_
  refine h_icmpne (tgt := 22) dX12_seesIt_6 rfl (fun _ => ?_) (fun c => absurd c (by decide))
  refine h_aload_n dX12_seesIt_22 rfl ?_
  refine h_getI dX12_seesIt_23 f_X12_364_10 rfl h4 ?_
  refine h_iconst dX12_seesIt_26 ci_4 ?_
  refine h_icmpne (tgt := 36) dX12_seesIt_27 rfl (fun c => absurd (by decide) c) (fun _ => ?_)
  refine h_aload_n dX12_seesIt_30 rfl ?_
  refine h_bipush dX12_seesIt_31 cb_50 ?_
  refine h_cV1 dX12_seesIt_33 k7_40 oVX12_ran rfl rfl ?_
  refine r_ran (j := j) h2 (by omega) ?_
  refine h_aload_n dX12_seesIt_36 rfl ?_
  refine h_getI dX12_seesIt_37 f_X12_364_10 rfl (ap_n (by decide) (by decide) h4) ?_
  refine h_iconst dX12_seesIt_40 ci_5 ?_
  refine h_icmpne (tgt := 50) dX12_seesIt_41 rfl (fun _ => ?_) (fun c => absurd c (by decide))
  refine h_aload_n dX12_seesIt_50 rfl ?_
  refine h_getI dX12_seesIt_51 f_X12_364_10 rfl (ap_n (by decide) (by decide) h4) ?_
  refine h_iconst dX12_seesIt_54 ci_2 ?_
  refine h_icmpeq (tgt := 66) dX12_seesIt_55 rfl (fun c => absurd c (by decide)) (fun _ => ?_)
  refine h_aload_n dX12_seesIt_58 rfl ?_
  refine h_getI dX12_seesIt_59 f_X12_364_10 rfl (ap_n (by decide) (by decide) h4) ?_
  refine h_iconst dX12_seesIt_62 ci_5 ?_
  refine h_icmpne (tgt := 72) dX12_seesIt_63 rfl (fun _ => ?_) (fun c => absurd c (by decide))
  refine h_aload_n dX12_seesIt_72 rfl ?_
  refine h_bipush dX12_seesIt_73 cb_10 ?_
  refine h_cV1 dX12_seesIt_75 k7_40 oVX12_ran rfl rfl ?_
  refine r_ran (j := j + 1) (ap_c (by decide) rfl h2) (by omega) ?_
  rw [ap_aq [50] [10] [50, 10] 1 rfl rfl]
  refine h_iload_n dX12_seesIt_78 rfl ?_
  refine h_aload_n dX12_seesIt_79 rfl ?_
  refine h_getI dX12_seesIt_80 f_X12_370_10 rfl (ap_n (by decide) (by decide) h1) ?_
  refine h_iadd dX12_seesIt_83 ?_
  refine h_istore_n dX12_seesIt_84 (Nat.le_of_ble_eq_true rfl) ?_
  refine h_iload_n dX12_seesIt_85 rfl ?_
  refine h_aload_n dX12_seesIt_86 rfl ?_
  refine h_getI dX12_seesIt_87 f_X12_364_10 rfl (ap_n (by decide) (by decide) h4) ?_
  refine h_iconst dX12_seesIt_90 ci_2 ?_
  refine h_icmpeq (tgt := 102) dX12_seesIt_91 rfl (fun c => absurd c (by decide)) (fun _ => ?_)
  refine h_aload_n dX12_seesIt_94 rfl ?_
  refine h_getI dX12_seesIt_95 f_X12_364_10 rfl (ap_n (by decide) (by decide) h4) ?_
  refine h_iconst dX12_seesIt_98 ci_5 ?_
  refine h_icmpne (tgt := 109) dX12_seesIt_99 rfl (fun _ => ?_) (fun c => absurd c (by decide))
  refine h_iconst dX12_seesIt_109 ci_0 ?_
  refine h_isub dX12_seesIt_110 ?_
  refine h_istore_n dX12_seesIt_111 (Nat.le_of_ble_eq_true rfl) ?_
  refine h_aload_n dX12_seesIt_112 rfl ?_
  refine h_getI dX12_seesIt_113 f_X12_364_10 rfl (ap_n (by decide) (by decide) h4) ?_
  refine h_iconst dX12_seesIt_116 ci_4 ?_
  refine h_icmpne (tgt := 126) dX12_seesIt_117 rfl (fun c => absurd (by decide) c) (fun _ => ?_)
  refine h_iload_n dX12_seesIt_120 rfl ?_
  refine h_iconst dX12_seesIt_121 ci_3 ?_
  refine h_ixor dX12_seesIt_122 ?_
  refine h_goto (tgt := 141) dX12_seesIt_123 rfl ?_
  refine h_ireturn dX12_seesIt_141 rfl ?_
  rw [sub0]
  exact hQ
theorem r4_X12_sightBends {l : Launch} {dp : Nat} {n a x : Int32} {j : Nat} {I : hI} {J : hJ} {lt tx : Option Nat} {Q : hQ} (h4 : I 82 44 = nI 4) (h0 : I 82 45 = n) (h1 : I 82 46 = a) (h2 : I 82 48 = nI j) (hj : j + 3 ≤ 30) (hQ : Q (some (.int (((x + a) ^^^ nI 3) * nI 2))) hSH (ap I 110 82 48 j [11, 50, 10]) J (hRR lt tx))  : HC l mX12_sightBends (dp + 2) 0 0 [.ref 82, .int x] hSH I J (hRR lt tx) Q := by
  refine HC.of (by decide +kernel) rfl (Nat.le_of_ble_eq_true rfl) ?_
  show HV l mX12_sightBends (dp + 2) 0 0 0 [some (.ref 82), some (.int x)] [] hSH I J (hRR lt tx) Q
  refine h_aload_n dX12_sightBends_0 rfl ?_
  refine h_bipush dX12_sightBends_1 cb_11 ?_
  refine h_cV1 dX12_sightBends_3 k7_40 oVX12_ran rfl rfl ?_
  refine r_ran (j := j) h2 (by omega) ?_
  refine h_aload_n dX12_sightBends_6 rfl ?_
  refine h_iload_n dX12_sightBends_7 rfl ?_
  refine h_cV1 dX12_sightBends_8 k7_36 oVX12_seesIt rfl rfl ?_
  refine r4_X12_seesIt (j := j + 1) (ap_n (by decide) (by decide) h4) (ap_n (by decide) (by decide) h0) (ap_n (by decide) (by decide) h1) (ap_c (by decide) rfl h2) (by omega) ?_
  rw [ap_aq [11] [50, 10] [11, 50, 10] 1 rfl rfl]
  refine h_iconst dX12_sightBends_11 ci_2 ?_
  refine h_imul dX12_sightBends_12 ?_
  refine h_ireturn dX12_sightBends_13 rfl ?_
  exact hQ
theorem r4_X12_bendsIt {l : Launch} {dp : Nat} {n a x : Int32} {j : Nat} {I : hI} {J : hJ} {lt tx : Option Nat} {Q : hQ} (h4 : I 82 44 = nI 4) (h0 : I 82 45 = n) (h1 : I 82 46 = a) (h2 : I 82 48 = nI j) (hj : j + 4 ≤ 30) (hQ : Q (some (.int (((x + a) ^^^ nI 3) * nI 2 + nI 7))) hSH (ap I 110 82 48 j [20, 11, 50, 10]) J (hRR lt tx))  : HC l mX12_bendsIt (dp + 3) 0 0 [.ref 82, .int x] hSH I J (hRR lt tx) Q := by
  refine HC.of (by decide +kernel) rfl (Nat.le_of_ble_eq_true rfl) ?_
  show HV l mX12_bendsIt (dp + 3) 0 0 0 [some (.ref 82), some (.int x), none] [] hSH I J (hRR lt tx) Q
  refine h_aload_n dX12_bendsIt_0 rfl ?_
  refine h_getI dX12_bendsIt_1 f_X12_364_10 rfl h4 ?_
  refine h_tableIn (off := 40) (tgt := 44) dX12_bendsIt_4 (by decide) (by decide) (by decide) rfl ?_
  refine h_aload_n dX12_bendsIt_44 rfl ?_
  refine h_bipush dX12_bendsIt_45 cb_20 ?_
  refine h_cV1 dX12_bendsIt_47 k7_40 oVX12_ran rfl rfl ?_
  refine r_ran (j := j) h2 (by omega) ?_
  refine h_aload_n dX12_bendsIt_50 rfl ?_
  refine h_iload_n dX12_bendsIt_51 rfl ?_
  refine h_cV1 dX12_bendsIt_52 k7_48 oVX12_sightBends rfl rfl ?_
  refine r4_X12_sightBends (j := j + 1) (ap_n (by decide) (by decide) h4) (ap_n (by decide) (by decide) h0) (ap_n (by decide) (by decide) h1) (ap_c (by decide) rfl h2) (by omega) ?_
  rw [ap_aq [20] [11, 50, 10] [20, 11, 50, 10] 1 rfl rfl]
  refine h_bipush dX12_bendsIt_55 cb_7 ?_
  refine h_iadd dX12_bendsIt_57 ?_
  refine h_ireturn dX12_bendsIt_58 rfl ?_
  exact hQ
theorem r4_X12_sightLeans {l : Launch} {dp : Nat} {n a x : Int32} {j : Nat} {I : hI} {J : hJ} {lt tx : Option Nat} {Q : hQ} (h4 : I 82 44 = nI 4) (h0 : I 82 45 = n) (h1 : I 82 46 = a) (h2 : I 82 48 = nI j) (hj : j + 1 ≤ 30) (hP : ∀ v, a = n → Q (some (.int v)) hSH (upI (ap I 110 82 48 j [12]) 82 49 (nI 1)) J (hRR lt tx)) (hQ : ¬ a = n → Q (some (.int (x / (a - n)))) hSH (ap I 110 82 48 j [12]) J (hRR lt tx))  : HC l mX12_sightLeans (dp + 1) 0 0 [.ref 82, .int x] hSH I J (hRR lt tx) Q := by
  refine HC.of (by decide +kernel) rfl (Nat.le_of_ble_eq_true rfl) ?_
  show HV l mX12_sightLeans (dp + 1) 0 0 0 [some (.ref 82), some (.int x)] [] hSH I J (hRR lt tx) Q
  refine h_aload_n dX12_sightLeans_0 rfl ?_
  refine h_bipush dX12_sightLeans_1 cb_12 ?_
  refine h_cV1 dX12_sightLeans_3 k7_40 oVX12_ran rfl rfl ?_
  refine r_ran (j := j) h2 (by omega) ?_
  refine h_aload_n dX12_sightLeans_6 rfl ?_
  refine h_getI dX12_sightLeans_7 f_X12_370_10 rfl (ap_n (by decide) (by decide) h1) ?_
  refine h_aload_n dX12_sightLeans_10 rfl ?_
  refine h_getI dX12_sightLeans_11 f_X12_373_10 rfl (ap_n (by decide) (by decide) h0) ?_
  refine h_icmpne (tgt := 24) dX12_sightLeans_14 rfl (fun c_14 => ?_) (fun c_14 => ?_)
  · refine h_iload_n dX12_sightLeans_24 rfl ?_
    refine h_aload_n dX12_sightLeans_25 rfl ?_
    refine h_getI dX12_sightLeans_26 f_X12_370_10 rfl (ap_n (by decide) (by decide) h1) ?_
    refine h_aload_n dX12_sightLeans_29 rfl ?_
    refine h_getI dX12_sightLeans_30 f_X12_373_10 rfl (ap_n (by decide) (by decide) h0) ?_
    refine h_isub dX12_sightLeans_33 ?_
    refine h_idiv dX12_sightLeans_34 (fun z => c_14 (sub_eq0 z)) ?_
    refine h_ireturn dX12_sightLeans_35 rfl ?_
    exact hQ c_14
  · refine h_aload_n dX12_sightLeans_17 rfl ?_
    refine h_iconst dX12_sightLeans_18 ci_1 ?_
    refine h_putZ dX12_sightLeans_19 f_X12_382_10 p_X12_10_49 (fun h => by cases h) rfl (by decide) ?_
    refine h_iconst dX12_sightLeans_22 ci_0 ?_
    refine h_ireturn dX12_sightLeans_23 rfl ?_
    exact hP _ c_14
theorem r4_X12_leansIt {l : Launch} {dp : Nat} {n a x : Int32} {j : Nat} {I : hI} {J : hJ} {lt tx : Option Nat} {Q : hQ} (h4 : I 82 44 = nI 4) (h0 : I 82 45 = n) (h1 : I 82 46 = a) (h2 : I 82 48 = nI j) (hj : j + 1 ≤ 30) (hP : ∀ v, a = n → Q (some (.int v)) hSH (upI (ap I 110 82 48 j [12]) 82 49 (nI 1)) J (hRR lt tx)) (hQ : ¬ a = n → Q (some (.int (x / (a - n)))) hSH (ap I 110 82 48 j [12]) J (hRR lt tx))  : HC l mX12_leansIt (dp + 2) 0 0 [.ref 82, .int x] hSH I J (hRR lt tx) Q := by
  refine HC.of (by decide +kernel) rfl (Nat.le_of_ble_eq_true rfl) ?_
  show HV l mX12_leansIt (dp + 2) 0 0 0 [some (.ref 82), some (.int x)] [] hSH I J (hRR lt tx) Q
  refine h_aload_n dX12_leansIt_0 rfl ?_
  refine h_getI dX12_leansIt_1 f_X12_364_10 rfl h4 ?_
  refine h_bipush dX12_leansIt_4 cb_6 ?_
  refine h_icmpne (tgt := 22) dX12_leansIt_6 rfl (fun _ => ?_) (fun c => absurd c (by decide))
  refine h_aload_n dX12_leansIt_22 rfl ?_
  refine h_getI dX12_leansIt_23 f_X12_364_10 rfl h4 ?_
  refine h_iconst dX12_leansIt_26 ci_3 ?_
  refine h_icmpne (tgt := 46) dX12_leansIt_27 rfl (fun _ => ?_) (fun c => absurd c (by decide))
  refine h_aload_n dX12_leansIt_46 rfl ?_
  refine h_iload_n dX12_leansIt_47 rfl ?_
  refine h_cV1 dX12_leansIt_48 k7_56 oVX12_sightLeans rfl rfl ?_
  refine r4_X12_sightLeans (j := j) h4 h0 h1 h2 (by omega) (fun v0 hz => ?_) (fun hz => ?_)
  · refine h_ireturn dX12_leansIt_51 rfl ?_
    exact hP _ hz
  · refine h_ireturn dX12_leansIt_51 rfl ?_
    exact hQ hz
theorem r4_X12_sightTells {l : Launch} {dp : Nat} {n a x : Int32} {j : Nat} {I : hI} {J : hJ} {lt tx : Option Nat} {Q : hQ} (h4 : I 82 44 = nI 4) (h0 : I 82 45 = n) (h1 : I 82 46 = a) (h2 : I 82 48 = nI j) (hj : j + 5 ≤ 30) (hQ : Q (some (.int ((((x + a) ^^^ nI 3) * nI 2 + nI 7) ^^^ n))) hSH (ap I 110 82 48 j [13, 20, 11, 50, 10]) J (hRR lt tx))  : HC l mX12_sightTells (dp + 4) 0 0 [.ref 82, .int x] hSH I J (hRR lt tx) Q := by
  refine HC.of (by decide +kernel) rfl (Nat.le_of_ble_eq_true rfl) ?_
  show HV l mX12_sightTells (dp + 4) 0 0 0 [some (.ref 82), some (.int x)] [] hSH I J (hRR lt tx) Q
  refine h_aload_n dX12_sightTells_0 rfl ?_
  refine h_bipush dX12_sightTells_1 cb_13 ?_
  refine h_cV1 dX12_sightTells_3 k7_40 oVX12_ran rfl rfl ?_
  refine r_ran (j := j) h2 (by omega) ?_
  refine h_aload_n dX12_sightTells_6 rfl ?_
  refine h_iload_n dX12_sightTells_7 rfl ?_
  refine h_cV1 dX12_sightTells_8 k7_44 oVX12_bendsIt rfl rfl ?_
  refine r4_X12_bendsIt (j := j + 1) (ap_n (by decide) (by decide) h4) (ap_n (by decide) (by decide) h0) (ap_n (by decide) (by decide) h1) (ap_c (by decide) rfl h2) (by omega) ?_
  rw [ap_aq [13] [20, 11, 50, 10] [13, 20, 11, 50, 10] 1 rfl rfl]
  refine h_aload_n dX12_sightTells_11 rfl ?_
  refine h_getI dX12_sightTells_12 f_X12_373_10 rfl (ap_n (by decide) (by decide) h0) ?_
  refine h_ixor dX12_sightTells_15 ?_
  refine h_ireturn dX12_sightTells_16 rfl ?_
  exact hQ
theorem r4_X12_tellsIt {l : Launch} {dp : Nat} {n a x : Int32} {j : Nat} {I : hI} {J : hJ} {lt tx : Option Nat} {Q : hQ} (h4 : I 82 44 = nI 4) (h0 : I 82 45 = n) (h1 : I 82 46 = a) (h2 : I 82 48 = nI j) (hj : j + 7 ≤ 30) (hP : ∀ v, a = n → Q (some (.int v)) hSH (upI (ap I 110 82 48 j [51, 13, 20, 11, 50, 10, 12]) 82 49 (nI 1)) J (hRR lt tx)) (hQ : ¬ a = n → Q (some (.int (((((x + a) ^^^ nI 3) * nI 2 + nI 7) ^^^ n) + n / (a - n)))) hSH (ap I 110 82 48 j [51, 13, 20, 11, 50, 10, 12]) J (hRR lt tx))  : HC l mX12_tellsIt (dp + 5) 0 0 [.ref 82, .int x] hSH I J (hRR lt tx) Q := by
  refine HC.of (by decide +kernel) rfl (Nat.le_of_ble_eq_true rfl) ?_
  show HV l mX12_tellsIt (dp + 5) 0 0 0 [some (.ref 82), some (.int x), none] [] hSH I J (hRR lt tx) Q
  refine h_aload_n dX12_tellsIt_0 rfl ?_
  refine h_getI dX12_tellsIt_1 f_X12_364_10 rfl h4 ?_
  refine h_bipush dX12_tellsIt_4 cb_6 ?_
  refine h_icmpne (tgt := 32) dX12_tellsIt_6 rfl (fun _ => ?_) (fun c => absurd c (by decide))
  refine h_aload_n dX12_tellsIt_32 rfl ?_
  refine h_getI dX12_tellsIt_33 f_X12_364_10 rfl h4 ?_
  refine h_iconst dX12_tellsIt_36 ci_4 ?_
  refine h_icmpne (tgt := 63) dX12_tellsIt_37 rfl (fun c => absurd (by decide) c) (fun _ => ?_)
  refine h_aload_n dX12_tellsIt_40 rfl ?_
  refine h_bipush dX12_tellsIt_41 cb_51 ?_
  refine h_cV1 dX12_tellsIt_43 k7_40 oVX12_ran rfl rfl ?_
  refine r_ran (j := j) h2 (by omega) ?_
  refine h_aload_n dX12_tellsIt_46 rfl ?_
  refine h_iload_n dX12_tellsIt_47 rfl ?_
  refine h_cV1 dX12_tellsIt_48 k7_64 oVX12_sightTells rfl rfl ?_
  refine r4_X12_sightTells (j := j + 1) (ap_n (by decide) (by decide) h4) (ap_n (by decide) (by decide) h0) (ap_n (by decide) (by decide) h1) (ap_c (by decide) rfl h2) (by omega) ?_
  rw [ap_aq [51] [13, 20, 11, 50, 10] [51, 13, 20, 11, 50, 10] 1 rfl rfl]
  refine h_istore_n dX12_tellsIt_51 (Nat.le_of_ble_eq_true rfl) ?_
  refine h_iload_n dX12_tellsIt_52 rfl ?_
  refine h_aload_n dX12_tellsIt_53 rfl ?_
  refine h_aload_n dX12_tellsIt_54 rfl ?_
  refine h_getI dX12_tellsIt_55 f_X12_373_10 rfl (ap_n (by decide) (by decide) h0) ?_
  refine h_cV1 dX12_tellsIt_58 k7_52 oVX12_leansIt rfl rfl ?_
  refine r4_X12_leansIt (j := j + 6) (ap_n (by decide) (by decide) h4) (ap_n (by decide) (by decide) h0) (ap_n (by decide) (by decide) h1) (ap_c (by decide) rfl h2) (by omega) (fun v0 hz => ?_) (fun hz => ?_)
  · rw [ap_aq [51, 13, 20, 11, 50, 10] [12] [51, 13, 20, 11, 50, 10, 12] 6 rfl rfl]
    refine h_iadd dX12_tellsIt_61 ?_
    refine h_ireturn dX12_tellsIt_62 rfl ?_
    exact hP _ hz
  · rw [ap_aq [51, 13, 20, 11, 50, 10] [12] [51, 13, 20, 11, 50, 10, 12] 6 rfl rfl]
    refine h_iadd dX12_tellsIt_61 ?_
    refine h_ireturn dX12_tellsIt_62 rfl ?_
    exact hQ hz
theorem r5_X12_seesIt {l : Launch} {dp : Nat} {n a x : Int32} {j : Nat} {I : hI} {J : hJ} {lt tx : Option Nat} {Q : hQ} (h4 : I 82 44 = nI 5) (h0 : I 82 45 = n) (h1 : I 82 46 = a) (h2 : I 82 48 = nI j) (hj : j + 3 ≤ 30) (hQ : Q (some (.int (nI 0 - (x + a - n)))) hSH (ap I 110 82 48 j [60, 30, 10]) J (hRR lt tx))  : HC l mX12_seesIt (dp + 1) 0 0 [.ref 82, .int x] hSH I J (hRR lt tx) Q := by
  refine HC.of (by decide +kernel) rfl (Nat.le_of_ble_eq_true rfl) ?_
  show HV l mX12_seesIt (dp + 1) 0 0 0 [some (.ref 82), some (.int x), none] [] hSH I J (hRR lt tx) Q
  refine h_aload_n dX12_seesIt_0 rfl ?_
  refine h_getI dX12_seesIt_1 f_X12_364_10 rfl h4 ?_
  refine h_bipush dX12_seesIt_4 cb_6 ?_
  refine h_icmpne (tgt := 22) dX12_seesIt_6 rfl (fun _ => ?_) (fun c => absurd c (by decide))
  refine h_aload_n dX12_seesIt_22 rfl ?_
  refine h_getI dX12_seesIt_23 f_X12_364_10 rfl h4 ?_
  refine h_iconst dX12_seesIt_26 ci_4 ?_
  refine h_icmpne (tgt := 36) dX12_seesIt_27 rfl (fun _ => ?_) (fun c => absurd c (by decide))
  refine h_aload_n dX12_seesIt_36 rfl ?_
  refine h_getI dX12_seesIt_37 f_X12_364_10 rfl h4 ?_
  refine h_iconst dX12_seesIt_40 ci_5 ?_
  refine h_icmpne (tgt := 50) dX12_seesIt_41 rfl (fun c => absurd (by decide) c) (fun _ => ?_)
  refine h_aload_n dX12_seesIt_44 rfl ?_
  refine h_bipush dX12_seesIt_45 cb_60 ?_
  refine h_cV1 dX12_seesIt_47 k7_40 oVX12_ran rfl rfl ?_
  refine r_ran (j := j) h2 (by omega) ?_
  refine h_aload_n dX12_seesIt_50 rfl ?_
  refine h_getI dX12_seesIt_51 f_X12_364_10 rfl (ap_n (by decide) (by decide) h4) ?_
  refine h_iconst dX12_seesIt_54 ci_2 ?_
  refine h_icmpeq (tgt := 66) dX12_seesIt_55 rfl (fun c => absurd c (by decide)) (fun _ => ?_)
  refine h_aload_n dX12_seesIt_58 rfl ?_
  refine h_getI dX12_seesIt_59 f_X12_364_10 rfl (ap_n (by decide) (by decide) h4) ?_
  refine h_iconst dX12_seesIt_62 ci_5 ?_
  refine h_icmpne (tgt := 72) dX12_seesIt_63 rfl (fun c => absurd (by decide) c) (fun _ => ?_)
  refine h_aload_n dX12_seesIt_66 rfl ?_
  refine h_bipush dX12_seesIt_67 cb_30 ?_
  refine h_cV1 dX12_seesIt_69 k7_40 oVX12_ran rfl rfl ?_
  refine r_ran (j := j + 1) (ap_c (by decide) rfl h2) (by omega) ?_
  rw [ap_aq [60] [30] [60, 30] 1 rfl rfl]
  refine h_aload_n dX12_seesIt_72 rfl ?_
  refine h_bipush dX12_seesIt_73 cb_10 ?_
  refine h_cV1 dX12_seesIt_75 k7_40 oVX12_ran rfl rfl ?_
  refine r_ran (j := j + 2) (ap_c (by decide) rfl h2) (by omega) ?_
  rw [ap_aq [60, 30] [10] [60, 30, 10] 2 rfl rfl]
  refine h_iload_n dX12_seesIt_78 rfl ?_
  refine h_aload_n dX12_seesIt_79 rfl ?_
  refine h_getI dX12_seesIt_80 f_X12_370_10 rfl (ap_n (by decide) (by decide) h1) ?_
  refine h_iadd dX12_seesIt_83 ?_
  refine h_istore_n dX12_seesIt_84 (Nat.le_of_ble_eq_true rfl) ?_
  refine h_iload_n dX12_seesIt_85 rfl ?_
  refine h_aload_n dX12_seesIt_86 rfl ?_
  refine h_getI dX12_seesIt_87 f_X12_364_10 rfl (ap_n (by decide) (by decide) h4) ?_
  refine h_iconst dX12_seesIt_90 ci_2 ?_
  refine h_icmpeq (tgt := 102) dX12_seesIt_91 rfl (fun c => absurd c (by decide)) (fun _ => ?_)
  refine h_aload_n dX12_seesIt_94 rfl ?_
  refine h_getI dX12_seesIt_95 f_X12_364_10 rfl (ap_n (by decide) (by decide) h4) ?_
  refine h_iconst dX12_seesIt_98 ci_5 ?_
  refine h_icmpne (tgt := 109) dX12_seesIt_99 rfl (fun c => absurd (by decide) c) (fun _ => ?_)
  refine h_aload_n dX12_seesIt_102 rfl ?_
  refine h_getI dX12_seesIt_103 f_X12_373_10 rfl (ap_n (by decide) (by decide) h0) ?_
  refine h_goto (tgt := 110) dX12_seesIt_106 rfl ?_
  refine h_isub dX12_seesIt_110 ?_
  refine h_istore_n dX12_seesIt_111 (Nat.le_of_ble_eq_true rfl) ?_
  refine h_aload_n dX12_seesIt_112 rfl ?_
  refine h_getI dX12_seesIt_113 f_X12_364_10 rfl (ap_n (by decide) (by decide) h4) ?_
  refine h_iconst dX12_seesIt_116 ci_4 ?_
  refine h_icmpne (tgt := 126) dX12_seesIt_117 rfl (fun _ => ?_) (fun c => absurd c (by decide))
  refine h_aload_n dX12_seesIt_126 rfl ?_
  refine h_getI dX12_seesIt_127 f_X12_364_10 rfl (ap_n (by decide) (by decide) h4) ?_
  refine h_iconst dX12_seesIt_130 ci_5 ?_
  refine h_icmpne (tgt := 140) dX12_seesIt_131 rfl (fun c => absurd (by decide) c) (fun _ => ?_)
  refine h_iconst dX12_seesIt_134 ci_0 ?_
  refine h_iload_n dX12_seesIt_135 rfl ?_
  refine h_isub dX12_seesIt_136 ?_
  refine h_goto (tgt := 141) dX12_seesIt_137 rfl ?_
  refine h_ireturn dX12_seesIt_141 rfl ?_
  exact hQ
theorem r5_X12_sightBends {l : Launch} {dp : Nat} {n a x : Int32} {j : Nat} {I : hI} {J : hJ} {lt tx : Option Nat} {Q : hQ} (h4 : I 82 44 = nI 5) (h0 : I 82 45 = n) (h1 : I 82 46 = a) (h2 : I 82 48 = nI j) (hj : j + 4 ≤ 30) (hQ : Q (some (.int ((nI 0 - (x + a - n)) * nI 2))) hSH (ap I 110 82 48 j [11, 60, 30, 10]) J (hRR lt tx))  : HC l mX12_sightBends (dp + 2) 0 0 [.ref 82, .int x] hSH I J (hRR lt tx) Q := by
  refine HC.of (by decide +kernel) rfl (Nat.le_of_ble_eq_true rfl) ?_
  show HV l mX12_sightBends (dp + 2) 0 0 0 [some (.ref 82), some (.int x)] [] hSH I J (hRR lt tx) Q
  refine h_aload_n dX12_sightBends_0 rfl ?_
  refine h_bipush dX12_sightBends_1 cb_11 ?_
  refine h_cV1 dX12_sightBends_3 k7_40 oVX12_ran rfl rfl ?_
  refine r_ran (j := j) h2 (by omega) ?_
  refine h_aload_n dX12_sightBends_6 rfl ?_
  refine h_iload_n dX12_sightBends_7 rfl ?_
  refine h_cV1 dX12_sightBends_8 k7_36 oVX12_seesIt rfl rfl ?_
  refine r5_X12_seesIt (j := j + 1) (ap_n (by decide) (by decide) h4) (ap_n (by decide) (by decide) h0) (ap_n (by decide) (by decide) h1) (ap_c (by decide) rfl h2) (by omega) ?_
  rw [ap_aq [11] [60, 30, 10] [11, 60, 30, 10] 1 rfl rfl]
  refine h_iconst dX12_sightBends_11 ci_2 ?_
  refine h_imul dX12_sightBends_12 ?_
  refine h_ireturn dX12_sightBends_13 rfl ?_
  exact hQ
theorem r5_X12_bendsIt {l : Launch} {dp : Nat} {n a x : Int32} {j : Nat} {I : hI} {J : hJ} {lt tx : Option Nat} {Q : hQ} (h4 : I 82 44 = nI 5) (h0 : I 82 45 = n) (h1 : I 82 46 = a) (h2 : I 82 48 = nI j) (hj : j + 8 ≤ 30) (hQ : Q (some (.int ((nI 0 - (x + a - n)) * nI 2 + (nI 0 - (n + a - n))))) hSH (ap I 110 82 48 j [61, 11, 60, 30, 10, 60, 30, 10]) J (hRR lt tx))  : HC l mX12_bendsIt (dp + 3) 0 0 [.ref 82, .int x] hSH I J (hRR lt tx) Q := by
  refine HC.of (by decide +kernel) rfl (Nat.le_of_ble_eq_true rfl) ?_
  show HV l mX12_bendsIt (dp + 3) 0 0 0 [some (.ref 82), some (.int x), none] [] hSH I J (hRR lt tx) Q
  refine h_aload_n dX12_bendsIt_0 rfl ?_
  refine h_getI dX12_bendsIt_1 f_X12_364_10 rfl h4 ?_
  refine h_tableIn (off := 55) (tgt := 59) dX12_bendsIt_4 (by decide) (by decide) (by decide) rfl ?_
  refine h_aload_n dX12_bendsIt_59 rfl ?_
  refine h_bipush dX12_bendsIt_60 cb_61 ?_
  refine h_cV1 dX12_bendsIt_62 k7_40 oVX12_ran rfl rfl ?_
  refine r_ran (j := j) h2 (by omega) ?_
  refine h_aload_n dX12_bendsIt_65 rfl ?_
  refine h_iload_n dX12_bendsIt_66 rfl ?_
  refine h_cV1 dX12_bendsIt_67 k7_48 oVX12_sightBends rfl rfl ?_
  refine r5_X12_sightBends (j := j + 1) (ap_n (by decide) (by decide) h4) (ap_n (by decide) (by decide) h0) (ap_n (by decide) (by decide) h1) (ap_c (by decide) rfl h2) (by omega) ?_
  rw [ap_aq [61] [11, 60, 30, 10] [61, 11, 60, 30, 10] 1 rfl rfl]
  refine h_istore_n dX12_bendsIt_70 (Nat.le_of_ble_eq_true rfl) ?_
  refine h_iload_n dX12_bendsIt_71 rfl ?_
  refine h_aload_n dX12_bendsIt_72 rfl ?_
  refine h_aload_n dX12_bendsIt_73 rfl ?_
  refine h_getI dX12_bendsIt_74 f_X12_373_10 rfl (ap_n (by decide) (by decide) h0) ?_
  refine h_cV1 dX12_bendsIt_77 k7_36 oVX12_seesIt rfl rfl ?_
  refine r5_X12_seesIt (j := j + 5) (ap_n (by decide) (by decide) h4) (ap_n (by decide) (by decide) h0) (ap_n (by decide) (by decide) h1) (ap_c (by decide) rfl h2) (by omega) ?_
  rw [ap_aq [61, 11, 60, 30, 10] [60, 30, 10] [61, 11, 60, 30, 10, 60, 30, 10] 5 rfl rfl]
  refine h_iadd dX12_bendsIt_80 ?_
  refine h_ireturn dX12_bendsIt_81 rfl ?_
  exact hQ
theorem r5_X12_sightLeans {l : Launch} {dp : Nat} {n a x : Int32} {j : Nat} {I : hI} {J : hJ} {lt tx : Option Nat} {Q : hQ} (h4 : I 82 44 = nI 5) (h0 : I 82 45 = n) (h1 : I 82 46 = a) (h2 : I 82 48 = nI j) (hj : j + 1 ≤ 30) (hP : ∀ v, a = n → Q (some (.int v)) hSH (upI (ap I 110 82 48 j [12]) 82 49 (nI 1)) J (hRR lt tx)) (hQ : ¬ a = n → Q (some (.int (x / (a - n)))) hSH (ap I 110 82 48 j [12]) J (hRR lt tx))  : HC l mX12_sightLeans (dp + 1) 0 0 [.ref 82, .int x] hSH I J (hRR lt tx) Q := by
  refine HC.of (by decide +kernel) rfl (Nat.le_of_ble_eq_true rfl) ?_
  show HV l mX12_sightLeans (dp + 1) 0 0 0 [some (.ref 82), some (.int x)] [] hSH I J (hRR lt tx) Q
  refine h_aload_n dX12_sightLeans_0 rfl ?_
  refine h_bipush dX12_sightLeans_1 cb_12 ?_
  refine h_cV1 dX12_sightLeans_3 k7_40 oVX12_ran rfl rfl ?_
  refine r_ran (j := j) h2 (by omega) ?_
  refine h_aload_n dX12_sightLeans_6 rfl ?_
  refine h_getI dX12_sightLeans_7 f_X12_370_10 rfl (ap_n (by decide) (by decide) h1) ?_
  refine h_aload_n dX12_sightLeans_10 rfl ?_
  refine h_getI dX12_sightLeans_11 f_X12_373_10 rfl (ap_n (by decide) (by decide) h0) ?_
  refine h_icmpne (tgt := 24) dX12_sightLeans_14 rfl (fun c_14 => ?_) (fun c_14 => ?_)
  · refine h_iload_n dX12_sightLeans_24 rfl ?_
    refine h_aload_n dX12_sightLeans_25 rfl ?_
    refine h_getI dX12_sightLeans_26 f_X12_370_10 rfl (ap_n (by decide) (by decide) h1) ?_
    refine h_aload_n dX12_sightLeans_29 rfl ?_
    refine h_getI dX12_sightLeans_30 f_X12_373_10 rfl (ap_n (by decide) (by decide) h0) ?_
    refine h_isub dX12_sightLeans_33 ?_
    refine h_idiv dX12_sightLeans_34 (fun z => c_14 (sub_eq0 z)) ?_
    refine h_ireturn dX12_sightLeans_35 rfl ?_
    exact hQ c_14
  · refine h_aload_n dX12_sightLeans_17 rfl ?_
    refine h_iconst dX12_sightLeans_18 ci_1 ?_
    refine h_putZ dX12_sightLeans_19 f_X12_382_10 p_X12_10_49 (fun h => by cases h) rfl (by decide) ?_
    refine h_iconst dX12_sightLeans_22 ci_0 ?_
    refine h_ireturn dX12_sightLeans_23 rfl ?_
    exact hP _ c_14
theorem r5_X12_leansIt {l : Launch} {dp : Nat} {n a x : Int32} {j : Nat} {I : hI} {J : hJ} {lt tx : Option Nat} {Q : hQ} (h4 : I 82 44 = nI 5) (h0 : I 82 45 = n) (h1 : I 82 46 = a) (h2 : I 82 48 = nI j) (hj : j + 1 ≤ 30) (hP : ∀ v, a = n → Q (some (.int v)) hSH (upI (ap I 110 82 48 j [12]) 82 49 (nI 1)) J (hRR lt tx)) (hQ : ¬ a = n → Q (some (.int (x / (a - n)))) hSH (ap I 110 82 48 j [12]) J (hRR lt tx))  : HC l mX12_leansIt (dp + 2) 0 0 [.ref 82, .int x] hSH I J (hRR lt tx) Q := by
  refine HC.of (by decide +kernel) rfl (Nat.le_of_ble_eq_true rfl) ?_
  show HV l mX12_leansIt (dp + 2) 0 0 0 [some (.ref 82), some (.int x)] [] hSH I J (hRR lt tx) Q
  refine h_aload_n dX12_leansIt_0 rfl ?_
  refine h_getI dX12_leansIt_1 f_X12_364_10 rfl h4 ?_
  refine h_bipush dX12_leansIt_4 cb_6 ?_
  refine h_icmpne (tgt := 22) dX12_leansIt_6 rfl (fun _ => ?_) (fun c => absurd c (by decide))
  refine h_aload_n dX12_leansIt_22 rfl ?_
  refine h_getI dX12_leansIt_23 f_X12_364_10 rfl h4 ?_
  refine h_iconst dX12_leansIt_26 ci_3 ?_
  refine h_icmpne (tgt := 46) dX12_leansIt_27 rfl (fun _ => ?_) (fun c => absurd c (by decide))
  refine h_aload_n dX12_leansIt_46 rfl ?_
  refine h_iload_n dX12_leansIt_47 rfl ?_
  refine h_cV1 dX12_leansIt_48 k7_56 oVX12_sightLeans rfl rfl ?_
  refine r5_X12_sightLeans (j := j) h4 h0 h1 h2 (by omega) (fun v0 hz => ?_) (fun hz => ?_)
  · refine h_ireturn dX12_leansIt_51 rfl ?_
    exact hP _ hz
  · refine h_ireturn dX12_leansIt_51 rfl ?_
    exact hQ hz
theorem r5_X12_sightTells {l : Launch} {dp : Nat} {n a x : Int32} {j : Nat} {I : hI} {J : hJ} {lt tx : Option Nat} {Q : hQ} (h4 : I 82 44 = nI 5) (h0 : I 82 45 = n) (h1 : I 82 46 = a) (h2 : I 82 48 = nI j) (hj : j + 9 ≤ 30) (hQ : Q (some (.int (((nI 0 - (x + a - n)) * nI 2 + (nI 0 - (n + a - n))) ^^^ n))) hSH (ap I 110 82 48 j [13, 61, 11, 60, 30, 10, 60, 30, 10]) J (hRR lt tx))  : HC l mX12_sightTells (dp + 4) 0 0 [.ref 82, .int x] hSH I J (hRR lt tx) Q := by
  refine HC.of (by decide +kernel) rfl (Nat.le_of_ble_eq_true rfl) ?_
  show HV l mX12_sightTells (dp + 4) 0 0 0 [some (.ref 82), some (.int x)] [] hSH I J (hRR lt tx) Q
  refine h_aload_n dX12_sightTells_0 rfl ?_
  refine h_bipush dX12_sightTells_1 cb_13 ?_
  refine h_cV1 dX12_sightTells_3 k7_40 oVX12_ran rfl rfl ?_
  refine r_ran (j := j) h2 (by omega) ?_
  refine h_aload_n dX12_sightTells_6 rfl ?_
  refine h_iload_n dX12_sightTells_7 rfl ?_
  refine h_cV1 dX12_sightTells_8 k7_44 oVX12_bendsIt rfl rfl ?_
  refine r5_X12_bendsIt (j := j + 1) (ap_n (by decide) (by decide) h4) (ap_n (by decide) (by decide) h0) (ap_n (by decide) (by decide) h1) (ap_c (by decide) rfl h2) (by omega) ?_
  rw [ap_aq [13] [61, 11, 60, 30, 10, 60, 30, 10] [13, 61, 11, 60, 30, 10, 60, 30, 10] 1 rfl rfl]
  refine h_aload_n dX12_sightTells_11 rfl ?_
  refine h_getI dX12_sightTells_12 f_X12_373_10 rfl (ap_n (by decide) (by decide) h0) ?_
  refine h_ixor dX12_sightTells_15 ?_
  refine h_ireturn dX12_sightTells_16 rfl ?_
  exact hQ
theorem r5_X12_tellsIt {l : Launch} {dp : Nat} {n a x : Int32} {j : Nat} {I : hI} {J : hJ} {lt tx : Option Nat} {Q : hQ} (h4 : I 82 44 = nI 5) (h0 : I 82 45 = n) (h1 : I 82 46 = a) (h2 : I 82 48 = nI j) (hj : j + 9 ≤ 30) (hQ : Q (some (.int (((nI 0 - (x + a - n)) * nI 2 + (nI 0 - (n + a - n))) ^^^ n))) hSH (ap I 110 82 48 j [13, 61, 11, 60, 30, 10, 60, 30, 10]) J (hRR lt tx))  : HC l mX12_tellsIt (dp + 5) 0 0 [.ref 82, .int x] hSH I J (hRR lt tx) Q := by
  refine HC.of (by decide +kernel) rfl (Nat.le_of_ble_eq_true rfl) ?_
  show HV l mX12_tellsIt (dp + 5) 0 0 0 [some (.ref 82), some (.int x), none] [] hSH I J (hRR lt tx) Q
  refine h_aload_n dX12_tellsIt_0 rfl ?_
  refine h_getI dX12_tellsIt_1 f_X12_364_10 rfl h4 ?_
  refine h_bipush dX12_tellsIt_4 cb_6 ?_
  refine h_icmpne (tgt := 32) dX12_tellsIt_6 rfl (fun _ => ?_) (fun c => absurd c (by decide))
  refine h_aload_n dX12_tellsIt_32 rfl ?_
  refine h_getI dX12_tellsIt_33 f_X12_364_10 rfl h4 ?_
  refine h_iconst dX12_tellsIt_36 ci_4 ?_
  refine h_icmpne (tgt := 63) dX12_tellsIt_37 rfl (fun _ => ?_) (fun c => absurd c (by decide))
  refine h_aload_n dX12_tellsIt_63 rfl ?_
  refine h_iload_n dX12_tellsIt_64 rfl ?_
  refine h_cV1 dX12_tellsIt_65 k7_64 oVX12_sightTells rfl rfl ?_
  refine r5_X12_sightTells (j := j) h4 h0 h1 h2 (by omega) ?_
  refine h_ireturn dX12_tellsIt_68 rfl ?_
  exact hQ
theorem r6_X12_seesIt {l : Launch} {dp : Nat} {n a x : Int32} {j : Nat} {I : hI} {J : hJ} {lt tx : Option Nat} {Q : hQ} (h4 : I 82 44 = nI 6) (h0 : I 82 45 = n) (h1 : I 82 46 = a) (h2 : I 82 48 = nI j) (hj : j + 1 ≤ 30) (hQ : Q (some (.int (x * a))) hSH (ap I 110 82 48 j [70]) J (hRR lt tx))  : HC l mX12_seesIt (dp + 1) 0 0 [.ref 82, .int x] hSH I J (hRR lt tx) Q := by
  refine HC.of (by decide +kernel) rfl (Nat.le_of_ble_eq_true rfl) ?_
  show HV l mX12_seesIt (dp + 1) 0 0 0 [some (.ref 82), some (.int x), none] [] hSH I J (hRR lt tx) Q
  refine h_aload_n dX12_seesIt_0 rfl ?_
  refine h_getI dX12_seesIt_1 f_X12_364_10 rfl h4 ?_
  refine h_bipush dX12_seesIt_4 cb_6 ?_
  refine h_icmpne (tgt := 22) dX12_seesIt_6 rfl (fun c => absurd (by decide) c) (fun _ => ?_)
  refine h_aload_n dX12_seesIt_9 rfl ?_
  refine h_bipush dX12_seesIt_10 cb_70 ?_
  refine h_cV1 dX12_seesIt_12 k7_40 oVX12_ran rfl rfl ?_
  refine r_ran (j := j) h2 (by omega) ?_
  refine h_iload_n dX12_seesIt_15 rfl ?_
  refine h_aload_n dX12_seesIt_16 rfl ?_
  refine h_getI dX12_seesIt_17 f_X12_370_10 rfl (ap_n (by decide) (by decide) h1) ?_
  refine h_imul dX12_seesIt_20 ?_
  refine h_ireturn dX12_seesIt_21 rfl ?_
  exact hQ
theorem r6_X12_bendsIt {l : Launch} {dp : Nat} {n a x : Int32} {j : Nat} {I : hI} {J : hJ} {lt tx : Option Nat} {Q : hQ} (h4 : I 82 44 = nI 6) (h0 : I 82 45 = n) (h1 : I 82 46 = a) (h2 : I 82 48 = nI j) (hj : j + 2 ≤ 30) (hQ : Q (some (.int ((x * a) - n))) hSH (ap I 110 82 48 j [71, 70]) J (hRR lt tx))  : HC l mX12_bendsIt (dp + 3) 0 0 [.ref 82, .int x] hSH I J (hRR lt tx) Q := by
  refine HC.of (by decide +kernel) rfl (Nat.le_of_ble_eq_true rfl) ?_
  show HV l mX12_bendsIt (dp + 3) 0 0 0 [some (.ref 82), some (.int x), none] [] hSH I J (hRR lt tx) Q
  refine h_aload_n dX12_bendsIt_0 rfl ?_
  refine h_getI dX12_bendsIt_1 f_X12_364_10 rfl h4 ?_
  refine h_tableIn (off := 78) (tgt := 82) dX12_bendsIt_4 (by decide) (by decide) (by decide) rfl ?_
  refine h_aload_n dX12_bendsIt_82 rfl ?_
  refine h_bipush dX12_bendsIt_83 cb_71 ?_
  refine h_cV1 dX12_bendsIt_85 k7_40 oVX12_ran rfl rfl ?_
  refine r_ran (j := j) h2 (by omega) ?_
  refine h_aload_n dX12_bendsIt_88 rfl ?_
  refine h_iload_n dX12_bendsIt_89 rfl ?_
  refine h_cV1 dX12_bendsIt_90 k7_36 oVX12_seesIt rfl rfl ?_
  refine r6_X12_seesIt (j := j + 1) (ap_n (by decide) (by decide) h4) (ap_n (by decide) (by decide) h0) (ap_n (by decide) (by decide) h1) (ap_c (by decide) rfl h2) (by omega) ?_
  rw [ap_aq [71] [70] [71, 70] 1 rfl rfl]
  refine h_aload_n dX12_bendsIt_93 rfl ?_
  refine h_getI dX12_bendsIt_94 f_X12_373_10 rfl (ap_n (by decide) (by decide) h0) ?_
  refine h_isub dX12_bendsIt_97 ?_
  refine h_ireturn dX12_bendsIt_98 rfl ?_
  exact hQ
theorem r6_X12_leansIt {l : Launch} {dp : Nat} {n a x : Int32} {j : Nat} {I : hI} {J : hJ} {lt tx : Option Nat} {Q : hQ} (h4 : I 82 44 = nI 6) (h0 : I 82 45 = n) (h1 : I 82 46 = a) (h2 : I 82 48 = nI j) (hj : j + 1 ≤ 30) (hQ : Q (some (.int (x ||| a))) hSH (ap I 110 82 48 j [72]) J (hRR lt tx))  : HC l mX12_leansIt (dp + 2) 0 0 [.ref 82, .int x] hSH I J (hRR lt tx) Q := by
  refine HC.of (by decide +kernel) rfl (Nat.le_of_ble_eq_true rfl) ?_
  show HV l mX12_leansIt (dp + 2) 0 0 0 [some (.ref 82), some (.int x)] [] hSH I J (hRR lt tx) Q
  refine h_aload_n dX12_leansIt_0 rfl ?_
  refine h_getI dX12_leansIt_1 f_X12_364_10 rfl h4 ?_
  refine h_bipush dX12_leansIt_4 cb_6 ?_
  refine h_icmpne (tgt := 22) dX12_leansIt_6 rfl (fun c => absurd (by decide) c) (fun _ => ?_)
  refine h_aload_n dX12_leansIt_9 rfl ?_
  refine h_bipush dX12_leansIt_10 cb_72 ?_
  refine h_cV1 dX12_leansIt_12 k7_40 oVX12_ran rfl rfl ?_
  refine r_ran (j := j) h2 (by omega) ?_
  refine h_iload_n dX12_leansIt_15 rfl ?_
  refine h_aload_n dX12_leansIt_16 rfl ?_
  refine h_getI dX12_leansIt_17 f_X12_370_10 rfl (ap_n (by decide) (by decide) h1) ?_
  refine h_ior dX12_leansIt_20 ?_
  refine h_ireturn dX12_leansIt_21 rfl ?_
  exact hQ
theorem r6_X12_tellsIt {l : Launch} {dp : Nat} {n a x : Int32} {j : Nat} {I : hI} {J : hJ} {lt tx : Option Nat} {Q : hQ} (h4 : I 82 44 = nI 6) (h0 : I 82 45 = n) (h1 : I 82 46 = a) (h2 : I 82 48 = nI j) (hj : j + 4 ≤ 30) (hQ : Q (some (.int (((x * a) - n) + (n ||| a)))) hSH (ap I 110 82 48 j [73, 71, 70, 72]) J (hRR lt tx))  : HC l mX12_tellsIt (dp + 5) 0 0 [.ref 82, .int x] hSH I J (hRR lt tx) Q := by
  refine HC.of (by decide +kernel) rfl (Nat.le_of_ble_eq_true rfl) ?_
  show HV l mX12_tellsIt (dp + 5) 0 0 0 [some (.ref 82), some (.int x), none] [] hSH I J (hRR lt tx) Q
  refine h_aload_n dX12_tellsIt_0 rfl ?_
  refine h_getI dX12_tellsIt_1 f_X12_364_10 rfl h4 ?_
  refine h_bipush dX12_tellsIt_4 cb_6 ?_
  refine h_icmpne (tgt := 32) dX12_tellsIt_6 rfl (fun c => absurd (by decide) c) (fun _ => ?_)
  refine h_aload_n dX12_tellsIt_9 rfl ?_
  refine h_bipush dX12_tellsIt_10 cb_73 ?_
  refine h_cV1 dX12_tellsIt_12 k7_40 oVX12_ran rfl rfl ?_
  refine r_ran (j := j) h2 (by omega) ?_
  refine h_aload_n dX12_tellsIt_15 rfl ?_
  refine h_iload_n dX12_tellsIt_16 rfl ?_
  refine h_cV1 dX12_tellsIt_17 k7_44 oVX12_bendsIt rfl rfl ?_
  refine r6_X12_bendsIt (j := j + 1) (ap_n (by decide) (by decide) h4) (ap_n (by decide) (by decide) h0) (ap_n (by decide) (by decide) h1) (ap_c (by decide) rfl h2) (by omega) ?_
  rw [ap_aq [73] [71, 70] [73, 71, 70] 1 rfl rfl]
  refine h_istore_n dX12_tellsIt_20 (Nat.le_of_ble_eq_true rfl) ?_
  refine h_iload_n dX12_tellsIt_21 rfl ?_
  refine h_aload_n dX12_tellsIt_22 rfl ?_
  refine h_aload_n dX12_tellsIt_23 rfl ?_
  refine h_getI dX12_tellsIt_24 f_X12_373_10 rfl (ap_n (by decide) (by decide) h0) ?_
  refine h_cV1 dX12_tellsIt_27 k7_52 oVX12_leansIt rfl rfl ?_
  refine r6_X12_leansIt (j := j + 3) (ap_n (by decide) (by decide) h4) (ap_n (by decide) (by decide) h0) (ap_n (by decide) (by decide) h1) (ap_c (by decide) rfl h2) (by omega) ?_
  rw [ap_aq [73, 71, 70] [72] [73, 71, 70, 72] 3 rfl rfl]
  refine h_iadd dX12_tellsIt_30 ?_
  refine h_ireturn dX12_tellsIt_31 rfl ?_
  exact hQ
