def PC (I I2 : hI) : Prop := ∃ g62 v0_9, I2 = (upI (upA I 62 g62) 0 9 v0_9)
theorem PC_iff {I I2 : hI} : PC I I2 ↔ (∀ x, x ≠ 62 → x ≠ 0 → I2 x = I x) ∧ ∀ j, j ≠ 9 → I2 0 j = I 0 j := by
  constructor
  · rintro ⟨g62, v0_9, rfl⟩
    refine ⟨fun x h62 h0 => ?_, fun j q9 => ?_⟩
    · simp [upA, upI, h62, h0]
    · simp [upA, upI, upd, q9]
  · rintro ⟨h, f0⟩
    refine ⟨I2 62, I2 0 9, ?_⟩
    funext x
    by_cases e62 : x = 62
    · subst e62; simp [upA, upI]
    · skip
      by_cases e0 : x = 0
      · subst e0
        funext j
        by_cases q9 : j = 9
        · subst q9; simp [upA, upI, upd]
        · skip
          simp [upA, upI, upd, q9, f0 j q9]
      · skip
        simp [upA, upI, e62, e0, h x e62 e0]
theorem PC_id (I : hI) : PC I I := PC_iff.mpr ⟨fun x _ _ => rfl, fun j _ => rfl⟩
theorem PC_tr {I I2 I3 : hI} (k1 : PC I I2) (k2 : PC I2 I3) : PC I I3 := PC_iff.mpr ⟨fun x h62 h0 => ((PC_iff.mp k2).1 x h62 h0).trans ((PC_iff.mp k1).1 x h62 h0), fun j q9 => ((PC_iff.mp k2).2 j q9).trans ((PC_iff.mp k1).2 j q9)⟩
def PR (I I2 : hI) : Prop := ∃ g90 g91 g92 g103 v82_37, I2 = (upI (upA (upA (upA (upA I 90 g90) 91 g91) 92 g92) 103 g103) 82 37 v82_37)
theorem PR_iff {I I2 : hI} : PR I I2 ↔ (∀ x, x ≠ 90 → x ≠ 91 → x ≠ 92 → x ≠ 103 → x ≠ 82 → I2 x = I x) ∧ ∀ j, j ≠ 37 → I2 82 j = I 82 j := by
  constructor
  · rintro ⟨g90, g91, g92, g103, v82_37, rfl⟩
    refine ⟨fun x h90 h91 h92 h103 h82 => ?_, fun j q37 => ?_⟩
    · simp [upA, upI, h90, h91, h92, h103, h82]
    · simp [upA, upI, upd, q37]
  · rintro ⟨h, f82⟩
    refine ⟨I2 90, I2 91, I2 92, I2 103, I2 82 37, ?_⟩
    funext x
    by_cases e90 : x = 90
    · subst e90; simp [upA, upI]
    · skip
      by_cases e91 : x = 91
      · subst e91; simp [upA, upI]
      · skip
        by_cases e92 : x = 92
        · subst e92; simp [upA, upI]
        · skip
          by_cases e103 : x = 103
          · subst e103; simp [upA, upI]
          · skip
            by_cases e82 : x = 82
            · subst e82
              funext j
              by_cases q37 : j = 37
              · subst q37; simp [upA, upI, upd]
              · skip
                simp [upA, upI, upd, q37, f82 j q37]
            · skip
              simp [upA, upI, e90, e91, e92, e103, e82, h x e90 e91 e92 e103 e82]
theorem PR_id (I : hI) : PR I I := PR_iff.mpr ⟨fun x _ _ _ _ _ => rfl, fun j _ => rfl⟩
theorem PR_tr {I I2 I3 : hI} (k1 : PR I I2) (k2 : PR I2 I3) : PR I I3 := PR_iff.mpr ⟨fun x h90 h91 h92 h103 h82 => ((PR_iff.mp k2).1 x h90 h91 h92 h103 h82).trans ((PR_iff.mp k1).1 x h90 h91 h92 h103 h82), fun j q37 => ((PR_iff.mp k2).2 j q37).trans ((PR_iff.mp k1).2 j q37)⟩
def pvN (d : Nat → Nat) : Nat → Nat
  | 0 => 0
  | k + 1 => if d k < 1000000 then pvN d k + 1 else pvN d k
def pvR (d : Nat → Nat) (lv : Nat → Int32) : Nat → Nat → Int32
  | 0 => fun _ => 0
  | k + 1 => if d k < 1000000 then upd (upd (upd (pvR d lv k) (3 * pvN d k) (nI k)) (3 * pvN d k + 1) (lv k)) (3 * pvN d k + 2) (nI (d k)) else pvR d lv k
theorem pvN_le {d : Nat → Nat} : ∀ k, pvN d k ≤ k
  | 0 => Nat.le_refl _
  | k + 1 => by
    have := pvN_le (d := d) k
    unfold pvN
    by_cases e : d k < 1000000
    · rw [if_pos e]; omega
    · rw [if_neg e]; omega
theorem pv_y {d : Nat → Nat} {lv : Nat → Int32} {k : Nat} (h : d k < 1000000) : pvN d (k + 1) = pvN d k + 1 ∧ pvR d lv (k + 1) = upd (upd (upd (pvR d lv k) (3 * pvN d k) (nI k)) (3 * pvN d k + 1) (lv k)) (3 * pvN d k + 2) (nI (d k)) := ⟨if_pos h, if_pos h⟩
theorem pv_n {d : Nat → Nat} {lv : Nat → Int32} {k : Nat} (h : ¬ d k < 1000000) : pvN d (k + 1) = pvN d k ∧ pvR d lv (k + 1) = pvR d lv k := ⟨if_neg h, if_neg h⟩
theorem pv_st {f g : Nat → Int32} {n : Nat} {a b c : Int32} (h : ∀ j, j < 3 * n → f j = g j) : ∀ j, j < 3 * (n + 1) → upd (upd (upd f (3 * n) a) (3 * n + 1) b) (3 * n + 2) c j = upd (upd (upd g (3 * n) a) (3 * n + 1) b) (3 * n + 2) c j := by
  intro j hj
  by_cases e1 : j = 3 * n + 2
  · rw [e1, upd_s, upd_s]
  · rw [upd_n _ _ e1, upd_n _ _ e1]
    by_cases e2 : j = 3 * n + 1
    · rw [e2, upd_s, upd_s]
    · rw [upd_n _ _ e2, upd_n _ _ e2]
      by_cases e3 : j = 3 * n
      · rw [e3, upd_s, upd_s]
      · rw [upd_n _ _ e3, upd_n _ _ e3]; exact h j (by omega)
theorem c_prove {l : Launch} {dp : Nat} {ns nl np ml nk nw : Nat} {pl fa fb sl pp pm ki fr tg wh bw : Nat → Nat} {rs sn : Nat → Int32} {fl : Nat → Bool} {qw : Nat → Nat → Nat → Nat → Bool} {I : hI} {J : hJ} {lt tx : Option Nat} {Q : hQ} (hG : cG I ns nl np ml nk nw pl fa fb sl pp pm ki fr tg wh bw rs sn fl qw) (hQ : ∀ I2, PC I I2 → cR I2 (pvN (dist fa fb sl nl) ns) (pvR (dist fa fb sl nl) (lvl fa fb sl rs nl) ns) → Q (some (.int (nI (pvN (dist fa fb sl nl) ns)))) hSH I2 J (hRR lt tx)) : HC l mX11_prove (dp + 1) 0 0 [.ref 0] hSH I J (hRR lt tx) Q := by
  refine HC.of (by decide +kernel) rfl (Nat.le_of_ble_eq_true rfl) ?_
  obtain ⟨⟨hN, hdo, hla, hlv⟩, hw, ⟨hnp, hml, hnk, hpt, hsi, hbt⟩, ⟨hn8, hm2, hn24, hpW, hsW⟩, hL⟩ := id hG
  obtain ⟨hns, hnl, hpl, hlg⟩ := id hN
  obtain ⟨hn6, hl12, hW, hp99, hr99⟩ := id hw
  have Lo : ∀ (m k : Nat) (I2 : hI), ns - k < m → k ≤ ns → PC I I2 → I2 0 9 = nI (pvN (dist fa fb sl nl) k) → (∀ j, j < 3 * pvN (dist fa fb sl nl) k → I2 62 j = pvR (dist fa fb sl nl) (lvl fa fb sl rs nl) k j) → ∀ z2, HV l mX11_prove (dp + 1) 0 0 7 [some (.ref 0), some (.int (nI k)), z2] [] hSH I2 J (hRR lt tx) Q := by
    intro m
    induction m with
    | zero => intro k I2 h1 h2 hP hn hc z2; omega
    | succ m ih =>
      intro k I2 h1 h2 hP hn hc z2
      have hP0 := hP
      have hkn := pvN_le (d := dist fa fb sl nl) k
      obtain ⟨g62, v0_9, rfl⟩ := hP
      refine h_iload_n dX11_prove_7 rfl ?_
      refine h_aload_n dX11_prove_8 rfl ?_
      refine h_getR dX11_prove_9 f_X11_20_9 rfl rfl ?_
      refine h_getI dX11_prove_12 f_X11_105_5 rfl hns ?_
      refine h_icmpge (tgt := 93) dX11_prove_15 rfl (fun c_15 => ?_) (fun c_15 => ?_)
      · rw [nI_leI (by omega) (by omega)] at c_15
        refine h_aload_n dX11_prove_93 rfl ?_
        refine h_getI dX11_prove_94 f_X11_51_9 rfl hn ?_
        refine h_ireturn dX11_prove_97 rfl ?_
        have ek : ns = k := by omega
        subst ek
        exact hQ _ hP0 ⟨hn, by omega, hc⟩
      · rw [nI_leI (by omega) (by omega)] at c_15
        refine h_aload_n dX11_prove_18 rfl ?_
        refine h_getR dX11_prove_19 f_X11_20_9 rfl rfl ?_
        refine h_iload_n dX11_prove_22 rfl ?_
        refine h_cV1 dX11_prove_23 k2_223 oVX5_hasLevel rfl rfl ?_
        refine c_hasLevelN (f := dist fa fb sl nl) hns hn6 hdo (by omega) (fun b3 => ?_) (fun b3 => ?_)
        · refine h_ifeq (tgt := 87) dX11_prove_26 rfl (fun c => absurd c (by decide)) (fun _ => ?_)
          refine h_aload_n dX11_prove_29 rfl ?_
          refine h_getI dX11_prove_30 f_X11_51_9 rfl hn ?_
          refine h_iconst dX11_prove_33 ci_3 ?_
          refine h_imulN dX11_prove_34 ?_
          refine h_istore_n dX11_prove_35 (Nat.le_of_ble_eq_true rfl) ?_
          refine h_aload_n dX11_prove_36 rfl ?_
          refine h_getR dX11_prove_37 f_X11_47_9 rfl rfl ?_
          refine h_iload_n dX11_prove_40 rfl ?_
          refine h_iload_n dX11_prove_41 rfl ?_
          refine h_iastN (j := 3 * pvN (dist fa fb sl nl) k) dX11_prove_42 rfl (by rw [Nat.mul_comm]) (by omega) rfl ?_
          refine h_aload_n dX11_prove_43 rfl ?_
          refine h_getR dX11_prove_44 f_X11_47_9 rfl rfl ?_
          refine h_iload_n dX11_prove_47 rfl ?_
          refine h_iconst dX11_prove_48 ci_1 ?_
          refine h_iaddN dX11_prove_49 ?_
          refine h_aload_n dX11_prove_50 rfl ?_
          refine h_getR dX11_prove_51 f_X11_20_9 rfl rfl ?_
          refine h_getR dX11_prove_54 f_X11_151_5 rfl rfl ?_
          refine h_iload_n dX11_prove_57 rfl ?_
          refine h_ialdN (j := k) dX11_prove_58 rfl rfl (by omega) rfl (hlv _ (by omega)) ?_
          refine h_iastN (j := 3 * pvN (dist fa fb sl nl) k + 1) dX11_prove_59 rfl (by rw [Nat.mul_comm]) (by omega) rfl ?_
          refine h_aload_n dX11_prove_60 rfl ?_
          refine h_getR dX11_prove_61 f_X11_47_9 rfl rfl ?_
          refine h_iload_n dX11_prove_64 rfl ?_
          refine h_iconst dX11_prove_65 ci_2 ?_
          refine h_iaddN dX11_prove_66 ?_
          refine h_aload_n dX11_prove_67 rfl ?_
          refine h_getR dX11_prove_68 f_X11_20_9 rfl rfl ?_
          refine h_getR dX11_prove_71 f_X11_154_5 rfl rfl ?_
          refine h_iload_n dX11_prove_74 rfl ?_
          refine h_ialdN (j := k) dX11_prove_75 rfl rfl (by omega) rfl ((hdo k (by omega)).trans (enc_lt b3)) ?_
          refine h_iastN (j := 3 * pvN (dist fa fb sl nl) k + 2) dX11_prove_76 rfl (by rw [Nat.mul_comm]) (by omega) rfl ?_
          refine h_aload_n dX11_prove_77 rfl ?_
          refine h_dup dX11_prove_78 rfl ?_
          refine h_getI dX11_prove_79 f_X11_51_9 rfl hn ?_
          refine h_iconst dX11_prove_82 ci_1 ?_
          refine h_iaddN dX11_prove_83 ?_
          refine h_putI dX11_prove_84 f_X11_51_9 p_X11_9_9 (fun h => by cases h) rfl ?_
          refine h_iinc (v := nI (k + 1)) dX11_prove_87 rfl (nI_1 _) (Nat.le_of_ble_eq_true rfl) ?_
          refine h_goto (tgt := 7) dX11_prove_90 rfl ?_
          obtain ⟨e1, e2⟩ := pv_y (d := dist fa fb sl nl) (lv := lvl fa fb sl rs nl) b3
          refine ih (k + 1) _ (by omega) (by omega) ?_ ?_ ?_ _
          · exact PC_tr hP0 (PC_iff.mpr ⟨fun x h62 h0 => by simp [upI, h62, h0], fun j q => by simp [upI, upd, q]⟩)
          · rw [e1]; rfl
          · rw [e1, e2]
            exact pv_st hc
        · refine h_ifeq (tgt := 87) dX11_prove_26 rfl (fun _ => ?_) (fun c => absurd (by decide) c)
          refine h_iinc (v := nI (k + 1)) dX11_prove_87 rfl (nI_1 _) (Nat.le_of_ble_eq_true rfl) ?_
          refine h_goto (tgt := 7) dX11_prove_90 rfl ?_
          obtain ⟨e1, e2⟩ := pv_n (d := dist fa fb sl nl) (lv := lvl fa fb sl rs nl) b3
          have h3 := ih (k + 1) _ (by omega) (by omega) hP0 (by rw [e1]; exact hn) (by rw [e1, e2]; exact hc)
          exact h3 _
  show HV l mX11_prove (dp + 1) 0 0 0 [some (.ref 0), none, none] [] hSH I J (hRR lt tx) Q
  refine h_aload_n dX11_prove_0 rfl ?_
  refine h_iconst dX11_prove_1 ci_0 ?_
  refine h_putI dX11_prove_2 f_X11_51_9 p_X11_9_9 (fun h => by cases h) rfl ?_
  refine h_iconst dX11_prove_5 ci_0 ?_
  refine h_istore_n dX11_prove_6 (Nat.le_of_ble_eq_true rfl) ?_
  exact Lo (ns + 1) 0 _ (by omega) (by omega) (PC_iff.mpr ⟨fun x h62 h0 => by simp [upI, upA, h0], fun j q => by simp [upI, upA, upd, q]⟩) rfl (fun j hj => absurd hj (by unfold pvN; omega)) _
theorem r_prove {l : Launch} {dp : Nat} {ns nl np ml nk nw : Nat} {pl fa fb sl pp pm ki fr tg wh bw : Nat → Nat} {rs sn : Nat → Int32} {fl : Nat → Bool} {qw : Nat → Nat → Nat → Nat → Bool} {I : hI} {J : hJ} {lt tx : Option Nat} {Q : hQ} (hG : rG I ns nl np ml nk nw pl fa fb sl pp pm ki fr tg wh bw rs sn fl qw) (hQ : ∀ I2, PR I I2 → rR I2 (pvN (dist fa fb sl nl) ns) (pvR (dist fa fb sl nl) (lvl fa fb sl rs nl) ns) → Q (some (.int (nI (pvN (dist fa fb sl nl) ns)))) hSH I2 J (hRR lt tx)) : HC l mX12_prove (dp + 3) 0 0 [.ref 82] hSH I J (hRR lt tx) Q := by
  refine HC.of (by decide +kernel) rfl (Nat.le_of_ble_eq_true rfl) ?_
  obtain ⟨hN, hw, ⟨hnp, hml, hnk, hpt, hsi⟩, ⟨hn8, hm2, hn24, hpW, hsW⟩, hL⟩ := id hG
  obtain ⟨hns, hnl, hpl, hlg⟩ := id hN
  obtain ⟨hn6, hl12, hW, hp99, hr99⟩ := id hw
  have Lo : ∀ (m k : Nat) (I2 : hI), ns - k < m → k ≤ ns → PR I I2 → I2 82 37 = nI (pvN (dist fa fb sl nl) k) → (∀ j, j < 3 * pvN (dist fa fb sl nl) k → I2 103 j = pvR (dist fa fb sl nl) (lvl fa fb sl rs nl) k j) → rL I2 ns nl fa fb sl rs → HV l mX12_prove (dp + 3) 0 0 11 [some (.ref 82), some (.int (nI k))] [] hSH I2 J (hRR lt tx) Q := by
    intro m
    induction m with
    | zero => intro k I2 h1 h2 hP hn hc hLv ; omega
    | succ m ih =>
      intro k I2 h1 h2 hP hn hc hLv 
      have hP0 := hP
      have hkn := pvN_le (d := dist fa fb sl nl) k
      obtain ⟨g90, g91, g92, g103, v82_37, rfl⟩ := hP
      refine h_iload_n dX12_prove_11 rfl ?_
      refine h_aload_n dX12_prove_12 rfl ?_
      refine h_getI dX12_prove_13 f_X12_102_10 rfl hns ?_
      refine h_icmpge (tgt := 93) dX12_prove_16 rfl (fun c_16 => ?_) (fun c_16 => ?_)
      · rw [nI_leI (by omega) (by omega)] at c_16
        refine h_aload_n dX12_prove_93 rfl ?_
        refine h_getI dX12_prove_94 f_X12_337_10 rfl hn ?_
        refine h_ireturn dX12_prove_97 rfl ?_
        have ek : ns = k := by omega
        subst ek
        exact hQ _ hP0 ⟨hn, by omega, hc⟩
      · rw [nI_leI (by omega) (by omega)] at c_16
        refine h_aload_n dX12_prove_19 rfl ?_
        refine h_iload_n dX12_prove_20 rfl ?_
        refine h_cV1 dX12_prove_21 k5_213 oVX12_hasLevel rfl rfl ?_
        refine r_hasLevel (f := dist fa fb sl nl) (by omega) hLv.1 (bf_le 6) (fun b3 => ?_) (fun b3 => ?_)
        · refine h_ifeq (tgt := 87) dX12_prove_24 rfl (fun c => absurd c (by decide)) (fun _ => ?_)
          refine h_aload_n dX12_prove_27 rfl ?_
          refine h_getR dX12_prove_28 f_X12_71_10 rfl rfl ?_
          refine h_iconst dX12_prove_31 ci_3 ?_
          refine h_aload_n dX12_prove_32 rfl ?_
          refine h_getI dX12_prove_33 f_X12_337_10 rfl hn ?_
          refine h_imulN dX12_prove_36 ?_
          refine h_iload_n dX12_prove_37 rfl ?_
          refine h_iastN (j := 3 * pvN (dist fa fb sl nl) k) dX12_prove_38 rfl rfl (by omega) rfl ?_
          refine h_aload_n dX12_prove_39 rfl ?_
          refine h_getR dX12_prove_40 f_X12_71_10 rfl rfl ?_
          refine h_iconst dX12_prove_43 ci_3 ?_
          refine h_aload_n dX12_prove_44 rfl ?_
          refine h_getI dX12_prove_45 f_X12_337_10 rfl hn ?_
          refine h_imulN dX12_prove_48 ?_
          refine h_iconst dX12_prove_49 ci_1 ?_
          refine h_iaddN dX12_prove_50 ?_
          refine h_aload_n dX12_prove_51 rfl ?_
          refine h_getR dX12_prove_52 f_X12_37_10 rfl rfl ?_
          refine h_iload_n dX12_prove_55 rfl ?_
          refine h_ialdN (j := k) dX12_prove_56 rfl rfl (by omega) rfl (hLv.2.1 _ (by omega) b3) ?_
          refine h_iastN (j := 3 * pvN (dist fa fb sl nl) k + 1) dX12_prove_57 rfl rfl (by omega) rfl ?_
          refine h_aload_n dX12_prove_58 rfl ?_
          refine h_getR dX12_prove_59 f_X12_71_10 rfl rfl ?_
          refine h_iconst dX12_prove_62 ci_3 ?_
          refine h_aload_n dX12_prove_63 rfl ?_
          refine h_getI dX12_prove_64 f_X12_337_10 rfl hn ?_
          refine h_imulN dX12_prove_67 ?_
          refine h_iconst dX12_prove_68 ci_2 ?_
          refine h_iaddN dX12_prove_69 ?_
          refine h_aload_n dX12_prove_70 rfl ?_
          refine h_getR dX12_prove_71 f_X12_31_10 rfl rfl ?_
          refine h_iload_n dX12_prove_74 rfl ?_
          refine h_ialdN (j := k) dX12_prove_75 rfl rfl (by omega) rfl (hLv.1 _ (by omega)) ?_
          refine h_iastN (j := 3 * pvN (dist fa fb sl nl) k + 2) dX12_prove_76 rfl rfl (by omega) rfl ?_
          refine h_aload_n dX12_prove_77 rfl ?_
          refine h_dup dX12_prove_78 rfl ?_
          refine h_getI dX12_prove_79 f_X12_337_10 rfl hn ?_
          refine h_iconst dX12_prove_82 ci_1 ?_
          refine h_iaddN dX12_prove_83 ?_
          refine h_putI dX12_prove_84 f_X12_337_10 p_X12_10_37 (fun h => by cases h) rfl ?_
          refine h_iinc (v := nI (k + 1)) dX12_prove_87 rfl (nI_1 _) (Nat.le_of_ble_eq_true rfl) ?_
          refine h_goto (tgt := 11) dX12_prove_90 rfl ?_
          obtain ⟨e1, e2⟩ := pv_y (d := dist fa fb sl nl) (lv := lvl fa fb sl rs nl) b3
          refine ih (k + 1) _ (by omega) (by omega) ?_ ?_ ?_ hLv
          · exact PR_tr hP0 (PR_iff.mpr ⟨fun x h90 h91 h92 h103 h82 => by simp [upI, h103, h82], fun j q => by simp [upI, upd, q]⟩)
          · rw [e1]; rfl
          · rw [e1, e2]
            exact pv_st hc
        · refine h_ifeq (tgt := 87) dX12_prove_24 rfl (fun _ => ?_) (fun c => absurd (by decide) c)
          refine h_iinc (v := nI (k + 1)) dX12_prove_87 rfl (nI_1 _) (Nat.le_of_ble_eq_true rfl) ?_
          refine h_goto (tgt := 11) dX12_prove_90 rfl ?_
          obtain ⟨e1, e2⟩ := pv_n (d := dist fa fb sl nl) (lv := lvl fa fb sl rs nl) b3
          have h3 := ih (k + 1) _ (by omega) (by omega) hP0 (by rw [e1]; exact hn) (by rw [e1, e2]; exact hc) hLv
          exact h3
  show HV l mX12_prove (dp + 3) 0 0 0 [some (.ref 82), none] [] hSH I J (hRR lt tx) Q
  refine h_aload_n dX12_prove_0 rfl ?_
  refine h_cV0 dX12_prove_1 k5_200 oVX12_findLevels rfl rfl ?_
  refine r_findLevels hN hw (fun a c b hLv => ?_)
  refine h_aload_n dX12_prove_4 rfl ?_
  refine h_iconst dX12_prove_5 ci_0 ?_
  refine h_putI dX12_prove_6 f_X12_337_10 p_X12_10_37 (fun h => by cases h) rfl ?_
  refine h_iconst dX12_prove_9 ci_0 ?_
  refine h_istore_n dX12_prove_10 (Nat.le_of_ble_eq_true rfl) ?_
  exact Lo (ns + 1) 0 _ (by omega) (by omega) (PR_iff.mpr ⟨fun x h90 h91 h92 h103 h82 => by simp [upI, upA, h90, h91, h92, h82], fun j q => by simp [upI, upA, upd, q]⟩) rfl (fun j hj => absurd hj (by unfold pvN; omega)) hLv
