def PF (I I2 : hI) : Prop := ∃ g58 g59 g60 v55_3 v55_9 v55_10 v55_11 v55_12 v55_13, I2 = (upI (upI (upI (upI (upI (upI (upA (upA (upA I 58 g58) 59 g59) 60 g60) 55 3 v55_3) 55 9 v55_9) 55 10 v55_10) 55 11 v55_11) 55 12 v55_12) 55 13 v55_13)
theorem PF_iff {I I2 : hI} : PF I I2 ↔ (∀ x, x ≠ 58 → x ≠ 59 → x ≠ 60 → x ≠ 55 → I2 x = I x) ∧ ∀ j, j ≠ 3 → j ≠ 9 → j ≠ 10 → j ≠ 11 → j ≠ 12 → j ≠ 13 → I2 55 j = I 55 j := by
  constructor
  · rintro ⟨g58, g59, g60, v55_3, v55_9, v55_10, v55_11, v55_12, v55_13, rfl⟩
    refine ⟨fun x h58 h59 h60 h55 => ?_, fun j q3 q9 q10 q11 q12 q13 => ?_⟩
    · simp [upA, upI, h58, h59, h60, h55]
    · simp [upA, upI, upd, q3, q9, q10, q11, q12, q13]
  · rintro ⟨h, f55⟩
    refine ⟨I2 58, I2 59, I2 60, I2 55 3, I2 55 9, I2 55 10, I2 55 11, I2 55 12, I2 55 13, ?_⟩
    funext x
    by_cases e58 : x = 58
    · subst e58; simp [upA, upI]
    · skip
      by_cases e59 : x = 59
      · subst e59; simp [upA, upI]
      · skip
        by_cases e60 : x = 60
        · subst e60; simp [upA, upI]
        · skip
          by_cases e55 : x = 55
          · subst e55
            funext j
            by_cases q3 : j = 3
            · subst q3; simp [upA, upI, upd]
            · skip
              by_cases q9 : j = 9
              · subst q9; simp [upA, upI, upd]
              · skip
                by_cases q10 : j = 10
                · subst q10; simp [upA, upI, upd]
                · skip
                  by_cases q11 : j = 11
                  · subst q11; simp [upA, upI, upd]
                  · skip
                    by_cases q12 : j = 12
                    · subst q12; simp [upA, upI, upd]
                    · skip
                      by_cases q13 : j = 13
                      · subst q13; simp [upA, upI, upd]
                      · skip
                        simp [upA, upI, upd, q3, q9, q10, q11, q12, q13, f55 j q3 q9 q10 q11 q12 q13]
          · skip
            simp [upA, upI, e58, e59, e60, e55, h x e58 e59 e60 e55]
theorem PF_id (I : hI) : PF I I := PF_iff.mpr ⟨fun x _ _ _ _ => rfl, fun j _ _ _ _ _ _ => rfl⟩
theorem PF_tr {I I2 I3 : hI} (k1 : PF I I2) (k2 : PF I2 I3) : PF I I3 := PF_iff.mpr ⟨fun x h58 h59 h60 h55 => ((PF_iff.mp k2).1 x h58 h59 h60 h55).trans ((PF_iff.mp k1).1 x h58 h59 h60 h55), fun j q3 q9 q10 q11 q12 q13 => ((PF_iff.mp k2).2 j q3 q9 q10 q11 q12 q13).trans ((PF_iff.mp k1).2 j q3 q9 q10 q11 q12 q13)⟩
theorem SF_pf {I I2 : hI} (h : SF I I2) : PF I I2 := PF_iff.mpr ⟨fun x _ _ _ h55 => (SF_iff.mp h).1 x h55, fun j _ q9 q10 q11 q12 _ => (SF_iff.mp h).2 j q9 q10 q11 q12⟩
theorem NF_pf {I I2 : hI} (h : NF I I2) : PF I I2 := PF_iff.mpr ⟨fun x h58 h59 h60 h55 => (NF_iff.mp h).1 x h58 h59 h60 h55, fun j q3 _ _ _ _ _ => (NF_iff.mp h).2 j q3⟩
theorem FF_pf {I : hI} {v : Int32} : PF I (upI I 55 13 v) := PF_iff.mpr ⟨fun x _ _ _ h55 => upI_n _ _ _ h55, fun j _ _ _ _ _ q13 => by rw [upI_s, upd_n _ _ q13]⟩
theorem CX_pf {I I2 : hI} {tp : Nat → Nat} {nt : Nat} (h : PF I I2) (hX : CX I tp nt) : CX I2 tp nt := by
  refine ⟨hX.1, ((PF_iff.mp h).2 8 (by decide) (by decide) (by decide) (by decide) (by decide) (by decide)).trans hX.2.1, fun j hj => ⟨(hX.2.2 j hj).1, ?_⟩⟩
  rw [(PF_iff.mp h).1 61 (by decide) (by decide) (by decide) (by decide)]
  exact (hX.2.2 j hj).2
theorem SF_k {I I2 : hI} (h : SF I I2) {j : Nat} (q9 : j ≠ 9) (q10 : j ≠ 10) (q11 : j ≠ 11) (q12 : j ≠ 12) : I2 55 j = I 55 j := (SF_iff.mp h).2 j q9 q10 q11 q12
theorem SF_b {I I2 : hI} (h : SF I I2) (m : Nat) : PB I I2 m := fun j _ => by
  rw [(SF_iff.mp h).1 58 (by decide), (SF_iff.mp h).1 59 (by decide), (SF_iff.mp h).1 60 (by decide)]
  exact ⟨rfl, rfl, rfl⟩
theorem FF_b {I : hI} {v : Int32} (m : Nat) : PB I (upI I 55 13 v) m := fun j _ => ⟨rfl, rfl, rfl⟩
theorem CT_nf {I I2 : hI} {tp : Nat → Nat} {nt e : Nat} (h : NF I I2) (hT : CT I tp nt e) : CT I2 tp nt e := by
  unfold CT
  rw [(NF_iff.mp h).2 9 (by decide), (NF_iff.mp h).2 10 (by decide), (NF_iff.mp h).2 11 (by decide), (NF_iff.mp h).2 12 (by decide)]
  exact hT
theorem CT_v {I : hI} {tp : Nat → Nat} {nt e : Nat} (h : e ≤ nt) (hT : CT I tp nt e) (hv : isV (tC tp nt e)) : I 55 12 = vI tp nt e := by
  unfold vI
  rcases hv with q | q
  · rw [if_neg (by omega)]
    exact hT.2.2.2.1 (tC_w (by omega) (by omega))
  · rw [if_pos q]
    obtain ⟨a, b, c, -⟩ := tC_11 h q
    exact hT.2.2.2.2 a b c
theorem c_readComparison {l : Launch} {dp : Nat} {tp : Nat → Nat} {nt e m : Nat} {I : hI} {J : hJ} {lt : Option Nat} {Q : hQ} (hX : CX I tp nt) (h : e ≤ nt) (hT : CT I tp nt e) (hf : I 55 13 = -1) (hm : I 55 3 = nI m) (hm1 : m < 100) (hF : ∀ I2 f, cf tp nt e = Sum.inl f → PF I I2 → I2 55 13 = nI f → I2 55 3 = nI m → Q none hSH I2 J (hRR lt (some 61))) (hO : ∀ I2 e3, cf tp nt e = Sum.inr e3 → PF I I2 → CT I2 tp nt e3 → I2 55 13 = -1 → I2 55 3 = nI (m + 1) → PB I I2 m → CP I2 m (m + 1) 2048 (cmpP tp nt e) → e + 3 ≤ e3 → e3 ≤ nt → Q none hSH I2 J (hRR lt (some 61)))  : HC l mX3_readComparison (dp + 1) 0 0 [.ref 55] hSH I J (hRR lt (some 61)) Q := by
  refine HC.of (by decide +kernel) rfl (Nat.le_of_ble_eq_true rfl) ?_
  show HV l mX3_readComparison (dp + 1) 0 0 0 [some (.ref 55), none, none, none] [] hSH I J (hRR lt (some 61)) Q
  have hb : ∀ j, j < nt → tp j < 256 := fun j hj => (hX.2.2 j hj).1
  have he1 := (tE_rng tp h).2.1
  have he2 := (tE_rng tp he1).2.1
  refine h_aload_n dX3_readComparison_0 rfl ?_
  refine h_getI dX3_readComparison_1 f_X3_50_3 rfl rfl ?_
  refine h_istore_n dX3_readComparison_4 (Nat.le_of_ble_eq_true rfl) ?_
  refine h_aload_n dX3_readComparison_5 rfl ?_
  refine h_cV0 dX3_readComparison_6 k3_238 oVX3_isValue rfl rfl ?_
  refine c_isValue h hb hT.2.2.1 (fun b1 => ?_) (fun b1 => ?_)
  · refine h_ifne (tgt := 17) dX3_readComparison_9 rfl (fun _ => ?_) (fun c => absurd c (by decide))
    refine h_aload_n dX3_readComparison_17 rfl ?_
    refine h_cV0 dX3_readComparison_18 k3_204 oVX3_step rfl rfl ?_
    refine c_step hX hT.2.1 he1 (fun I2 hS2 hT2 => ?_)
    have hX2 := CX_pf (SF_pf hS2) hX
    have hf2 : I2 55 13 = -1 := (SF_k hS2 (by decide) (by decide) (by decide) (by decide)).trans hf
    have hm2 : I2 55 3 = nI m := (SF_k hS2 (by decide) (by decide) (by decide) (by decide)).trans hm
    refine h_aload_n dX3_readComparison_21 rfl ?_
    refine h_getI dX3_readComparison_22 f_X3_47_3 rfl hT2.2.2.1 ?_
    refine h_istore_n dX3_readComparison_25 (Nat.le_of_ble_eq_true rfl) ?_
    refine h_iload_n dX3_readComparison_26 rfl ?_
    refine h_bipush dX3_readComparison_27 cb_60 ?_
    refine h_icmpeq (tgt := 49) dX3_readComparison_29 rfl (fun c_29 => ?_) (fun c_29 => ?_)
    · have hsg : 80 ≤ tC tp nt (tE tp nt e) ∧ tC tp nt (tE tp nt e) ≤ 82 := by have := (tI_m60 he1 hb).mp c_29; omega
      refine h_aload_n dX3_readComparison_49 rfl ?_
      refine h_cV0 dX3_readComparison_50 k3_204 oVX3_step rfl rfl ?_
      refine c_step hX2 hT2.2.1 he2 (fun I3 hS3 hT3 => ?_)
      have hX3 := CX_pf (SF_pf hS3) hX2
      have hf3 : I3 55 13 = -1 := (SF_k hS3 (by decide) (by decide) (by decide) (by decide)).trans hf2
      have hm3 : I3 55 3 = nI m := (SF_k hS3 (by decide) (by decide) (by decide) (by decide)).trans hm2
      refine h_aload_n dX3_readComparison_53 rfl ?_
      refine h_getI dX3_readComparison_54 f_X3_50_3 rfl rfl ?_
      refine h_istore_n dX3_readComparison_57 (Nat.le_of_ble_eq_true rfl) ?_
      refine h_aload_n dX3_readComparison_58 rfl ?_
      refine h_cV0 dX3_readComparison_59 k3_238 oVX3_isValue rfl rfl ?_
      refine c_isValue he2 hb hT3.2.2.1 (fun b2 => ?_) (fun b2 => ?_)
      · refine h_ifne (tgt := 70) dX3_readComparison_62 rfl (fun _ => ?_) (fun c => absurd c (by decide))
        refine h_aload_n dX3_readComparison_70 rfl ?_
        refine h_cV0 dX3_readComparison_71 k3_204 oVX3_step rfl rfl ?_
        refine c_step hX3 hT3.2.1 (tE_rng tp he2).2.1 (fun I4 hS4 hT4 => ?_)
        have hm4 : I4 55 3 = nI m := (SF_k hS4 (by decide) (by decide) (by decide) (by decide)).trans hm3
        refine h_aload_n dX3_readComparison_74 rfl ?_
        refine h_iload_n dX3_readComparison_75 rfl ?_
        refine h_iload_n dX3_readComparison_76 rfl ?_
        refine h_iload_n dX3_readComparison_77 rfl ?_
        refine h_cV3 dX3_readComparison_78 k4_6 oVX3_note rfl rfl ?_
        refine c_note hm4 hm1 (fun I5 hN hm5 hN5 => ?_)
        refine h_return dX3_readComparison_81 rfl ?_
        rw [CT_v h hT b1, CT_v he2 hT3 b2] at hN5
        have l1 := (tE_rng tp h).2.2.1 (by rcases b1 with q | q <;> omega)
        have l2 := (tE_rng tp he1).2.2.1 (by omega)
        have l3 := (tE_rng tp he2).2.2.1 (by rcases b2 with q | q <;> omega)
        have s1 := (tk_rng tp h).1
        have s2 := (tk_rng tp he1).1
        have s3 := (tk_rng tp he2).1
        exact hO _ _ (cf_4 b1 hsg b2) (PF_tr (SF_pf hS2) (PF_tr (SF_pf hS3) (PF_tr (SF_pf hS4) (NF_pf hN)))) (CT_nf hN hT4) (((NF_iff.mp hN).2 13 (by decide)).trans ((SF_k hS4 (by decide) (by decide) (by decide) (by decide)).trans hf3)) hm5 (PB_tr (PB_tr (PB_tr (SF_b hS2 m) (SF_b hS3 m) (Nat.le_refl m)) (SF_b hS4 m) (Nat.le_refl m)) hN5.1 (Nat.le_refl m)) (CP_cmp (by omega) h hb b1 hsg b2 hN5) (by omega) (tE_rng tp he2).2.1
      · refine h_ifne (tgt := 70) dX3_readComparison_62 rfl (fun c => absurd (by decide) c) (fun _ => ?_)
        refine h_aload_n dX3_readComparison_65 rfl ?_
        refine h_cV0 dX3_readComparison_66 k3_213 oVX3_fail rfl rfl ?_
        refine c_fail hf3 hT3.1 ?_
        refine h_return dX3_readComparison_69 rfl ?_
        exact hF _ _ (cf_3 b1 hsg b2) (PF_tr (SF_pf hS2) (PF_tr (SF_pf hS3) FF_pf)) rfl hm3
    · refine h_iload_n dX3_readComparison_32 rfl ?_
      refine h_bipush dX3_readComparison_33 cb_61 ?_
      refine h_icmpeq (tgt := 49) dX3_readComparison_35 rfl (fun c_35 => ?_) (fun c_35 => ?_)
      · have hsg : 80 ≤ tC tp nt (tE tp nt e) ∧ tC tp nt (tE tp nt e) ≤ 82 := by have := (tI_m61 he1 hb).mp c_35; omega
        refine h_aload_n dX3_readComparison_49 rfl ?_
        refine h_cV0 dX3_readComparison_50 k3_204 oVX3_step rfl rfl ?_
        refine c_step hX2 hT2.2.1 he2 (fun I3 hS3 hT3 => ?_)
        have hX3 := CX_pf (SF_pf hS3) hX2
        have hf3 : I3 55 13 = -1 := (SF_k hS3 (by decide) (by decide) (by decide) (by decide)).trans hf2
        have hm3 : I3 55 3 = nI m := (SF_k hS3 (by decide) (by decide) (by decide) (by decide)).trans hm2
        refine h_aload_n dX3_readComparison_53 rfl ?_
        refine h_getI dX3_readComparison_54 f_X3_50_3 rfl rfl ?_
        refine h_istore_n dX3_readComparison_57 (Nat.le_of_ble_eq_true rfl) ?_
        refine h_aload_n dX3_readComparison_58 rfl ?_
        refine h_cV0 dX3_readComparison_59 k3_238 oVX3_isValue rfl rfl ?_
        refine c_isValue he2 hb hT3.2.2.1 (fun b2 => ?_) (fun b2 => ?_)
        · refine h_ifne (tgt := 70) dX3_readComparison_62 rfl (fun _ => ?_) (fun c => absurd c (by decide))
          refine h_aload_n dX3_readComparison_70 rfl ?_
          refine h_cV0 dX3_readComparison_71 k3_204 oVX3_step rfl rfl ?_
          refine c_step hX3 hT3.2.1 (tE_rng tp he2).2.1 (fun I4 hS4 hT4 => ?_)
          have hm4 : I4 55 3 = nI m := (SF_k hS4 (by decide) (by decide) (by decide) (by decide)).trans hm3
          refine h_aload_n dX3_readComparison_74 rfl ?_
          refine h_iload_n dX3_readComparison_75 rfl ?_
          refine h_iload_n dX3_readComparison_76 rfl ?_
          refine h_iload_n dX3_readComparison_77 rfl ?_
          refine h_cV3 dX3_readComparison_78 k4_6 oVX3_note rfl rfl ?_
          refine c_note hm4 hm1 (fun I5 hN hm5 hN5 => ?_)
          refine h_return dX3_readComparison_81 rfl ?_
          rw [CT_v h hT b1, CT_v he2 hT3 b2] at hN5
          have l1 := (tE_rng tp h).2.2.1 (by rcases b1 with q | q <;> omega)
          have l2 := (tE_rng tp he1).2.2.1 (by omega)
          have l3 := (tE_rng tp he2).2.2.1 (by rcases b2 with q | q <;> omega)
          have s1 := (tk_rng tp h).1
          have s2 := (tk_rng tp he1).1
          have s3 := (tk_rng tp he2).1
          exact hO _ _ (cf_4 b1 hsg b2) (PF_tr (SF_pf hS2) (PF_tr (SF_pf hS3) (PF_tr (SF_pf hS4) (NF_pf hN)))) (CT_nf hN hT4) (((NF_iff.mp hN).2 13 (by decide)).trans ((SF_k hS4 (by decide) (by decide) (by decide) (by decide)).trans hf3)) hm5 (PB_tr (PB_tr (PB_tr (SF_b hS2 m) (SF_b hS3 m) (Nat.le_refl m)) (SF_b hS4 m) (Nat.le_refl m)) hN5.1 (Nat.le_refl m)) (CP_cmp (by omega) h hb b1 hsg b2 hN5) (by omega) (tE_rng tp he2).2.1
        · refine h_ifne (tgt := 70) dX3_readComparison_62 rfl (fun c => absurd (by decide) c) (fun _ => ?_)
          refine h_aload_n dX3_readComparison_65 rfl ?_
          refine h_cV0 dX3_readComparison_66 k3_213 oVX3_fail rfl rfl ?_
          refine c_fail hf3 hT3.1 ?_
          refine h_return dX3_readComparison_69 rfl ?_
          exact hF _ _ (cf_3 b1 hsg b2) (PF_tr (SF_pf hS2) (PF_tr (SF_pf hS3) FF_pf)) rfl hm3
      · refine h_iload_n dX3_readComparison_38 rfl ?_
        refine h_bipush dX3_readComparison_39 cb_62 ?_
        refine h_icmpeq (tgt := 49) dX3_readComparison_41 rfl (fun c_41 => ?_) (fun c_41 => ?_)
        · have hsg : 80 ≤ tC tp nt (tE tp nt e) ∧ tC tp nt (tE tp nt e) ≤ 82 := by have := (tI_m62 he1 hb).mp c_41; omega
          refine h_aload_n dX3_readComparison_49 rfl ?_
          refine h_cV0 dX3_readComparison_50 k3_204 oVX3_step rfl rfl ?_
          refine c_step hX2 hT2.2.1 he2 (fun I3 hS3 hT3 => ?_)
          have hX3 := CX_pf (SF_pf hS3) hX2
          have hf3 : I3 55 13 = -1 := (SF_k hS3 (by decide) (by decide) (by decide) (by decide)).trans hf2
          have hm3 : I3 55 3 = nI m := (SF_k hS3 (by decide) (by decide) (by decide) (by decide)).trans hm2
          refine h_aload_n dX3_readComparison_53 rfl ?_
          refine h_getI dX3_readComparison_54 f_X3_50_3 rfl rfl ?_
          refine h_istore_n dX3_readComparison_57 (Nat.le_of_ble_eq_true rfl) ?_
          refine h_aload_n dX3_readComparison_58 rfl ?_
          refine h_cV0 dX3_readComparison_59 k3_238 oVX3_isValue rfl rfl ?_
          refine c_isValue he2 hb hT3.2.2.1 (fun b2 => ?_) (fun b2 => ?_)
          · refine h_ifne (tgt := 70) dX3_readComparison_62 rfl (fun _ => ?_) (fun c => absurd c (by decide))
            refine h_aload_n dX3_readComparison_70 rfl ?_
            refine h_cV0 dX3_readComparison_71 k3_204 oVX3_step rfl rfl ?_
            refine c_step hX3 hT3.2.1 (tE_rng tp he2).2.1 (fun I4 hS4 hT4 => ?_)
            have hm4 : I4 55 3 = nI m := (SF_k hS4 (by decide) (by decide) (by decide) (by decide)).trans hm3
            refine h_aload_n dX3_readComparison_74 rfl ?_
            refine h_iload_n dX3_readComparison_75 rfl ?_
            refine h_iload_n dX3_readComparison_76 rfl ?_
            refine h_iload_n dX3_readComparison_77 rfl ?_
            refine h_cV3 dX3_readComparison_78 k4_6 oVX3_note rfl rfl ?_
            refine c_note hm4 hm1 (fun I5 hN hm5 hN5 => ?_)
            refine h_return dX3_readComparison_81 rfl ?_
            rw [CT_v h hT b1, CT_v he2 hT3 b2] at hN5
            have l1 := (tE_rng tp h).2.2.1 (by rcases b1 with q | q <;> omega)
            have l2 := (tE_rng tp he1).2.2.1 (by omega)
            have l3 := (tE_rng tp he2).2.2.1 (by rcases b2 with q | q <;> omega)
            have s1 := (tk_rng tp h).1
            have s2 := (tk_rng tp he1).1
            have s3 := (tk_rng tp he2).1
            exact hO _ _ (cf_4 b1 hsg b2) (PF_tr (SF_pf hS2) (PF_tr (SF_pf hS3) (PF_tr (SF_pf hS4) (NF_pf hN)))) (CT_nf hN hT4) (((NF_iff.mp hN).2 13 (by decide)).trans ((SF_k hS4 (by decide) (by decide) (by decide) (by decide)).trans hf3)) hm5 (PB_tr (PB_tr (PB_tr (SF_b hS2 m) (SF_b hS3 m) (Nat.le_refl m)) (SF_b hS4 m) (Nat.le_refl m)) hN5.1 (Nat.le_refl m)) (CP_cmp (by omega) h hb b1 hsg b2 hN5) (by omega) (tE_rng tp he2).2.1
          · refine h_ifne (tgt := 70) dX3_readComparison_62 rfl (fun c => absurd (by decide) c) (fun _ => ?_)
            refine h_aload_n dX3_readComparison_65 rfl ?_
            refine h_cV0 dX3_readComparison_66 k3_213 oVX3_fail rfl rfl ?_
            refine c_fail hf3 hT3.1 ?_
            refine h_return dX3_readComparison_69 rfl ?_
            exact hF _ _ (cf_3 b1 hsg b2) (PF_tr (SF_pf hS2) (PF_tr (SF_pf hS3) FF_pf)) rfl hm3
        · refine h_aload_n dX3_readComparison_44 rfl ?_
          refine h_cV0 dX3_readComparison_45 k3_213 oVX3_fail rfl rfl ?_
          refine c_fail hf2 hT2.1 ?_
          refine h_return dX3_readComparison_48 rfl ?_
          exact hF _ _ (cf_2 b1 (fun z => by
            have a1 := fun q => c_29 ((tI_m60 he1 hb).mpr q)
            have a2 := fun q => c_35 ((tI_m61 he1 hb).mpr q)
            have a3 := fun q => c_41 ((tI_m62 he1 hb).mpr q)
            by_cases z6 : tC tp nt (tE tp nt e) = 80
            · exact a1 z6
            · by_cases z7 : tC tp nt (tE tp nt e) = 81
              · exact a2 z7
              · exact a3 (by omega))) (PF_tr (SF_pf hS2) FF_pf) rfl hm2
  · refine h_ifne (tgt := 17) dX3_readComparison_9 rfl (fun c => absurd (by decide) c) (fun _ => ?_)
    refine h_aload_n dX3_readComparison_12 rfl ?_
    refine h_cV0 dX3_readComparison_13 k3_213 oVX3_fail rfl rfl ?_
    refine c_fail hf hT.1 ?_
    refine h_return dX3_readComparison_16 rfl ?_
    exact hF _ _ (cf_1 b1) FF_pf rfl hm
