theorem c_readAll {l : Launch} {dp : Nat} {tp : Nat → Nat} {nt e m N B op w : Nat} {fs : List qF} {r : Nat ⊕ (Nat × qP)} {I : hI} {J : hJ} {lt : Option Nat} {o : Option qP} {Q : hQ} (IH : ∀ w2, w = w2 + 1 → rcW l w2 dp) (hX : CX I tp nt) (h : e ≤ nt) (hT : CT I tp nt e) (hf : I 55 13 = -1) (hm : I 55 3 = nI m) (h5 : 5 * m ≤ 2 * e) (hN : nt < N + e) (hB : B * 4 ^ w ≤ 128) (hw : op + w = 3) (hfs : fs.length = op) (hr : run tp nt N none e ((o, none, 0) :: fs) = r) (hF : ∀ I2 f m2, r = Sum.inl f → f ≤ 200 → PF I I2 → I2 55 13 = nI f → I2 55 3 = nI m2 → m2 ≤ 100 → Q none hSH I2 J (hRR lt (some 61))) (hO : ∀ I2 e2 N2 m2 a v, run tp nt N2 (some v) e2 ((o, a, 0) :: fs) = r → ¬ tC tp nt e2 = 4 → nt < N2 + e2 → e2 ≤ nt → PF I I2 → CT I2 tp nt e2 → I2 55 13 = -1 → I2 55 3 = nI m2 → 5 * m2 + 1 + 2 * e ≤ 2 * e2 + 5 * m → PB I I2 m → CP I2 m m2 (2 * B) (aj a v) → Q none hSH I2 J (hRR lt (some 61)))  : HC l mX3_readAll (dp + 3) 0 0 [.ref 55, .int (nI op)] hSH I J (hRR lt (some 61)) Q := by
  refine HC.of (by decide +kernel) rfl (Nat.le_of_ble_eq_true rfl) ?_
  have hb : ∀ j, j < nt → tp j < 256 := fun j hj => (hX.2.2 j hj).1
  have h200 := hX.1
  have he1 := (tE_rng tp h).2.1
  have hs0 := tk_rng tp h
  have hB1 := pw1 hB
  have Fl : ∀ (i : Nat) (I1 : hI) (f m1 : Nat), i ≤ 200 → r = Sum.inl f → f ≤ 200 → PF I I1 → I1 55 13 = nI f → I1 55 3 = nI m1 → m1 ≤ 100 → HV l mX3_readAll (dp + 3) 0 0 7 [some (.ref 55), some (.int (nI op)), some (.int (nI i))] [] hSH I1 J (hRR lt (some 61)) Q := by
    intro i I1 f m1 hi hrf hf200 hP1 hf1 hm1 hm1b
    refine h_iload_n dX3_readAll_7 rfl ?_
    refine h_sipush dX3_readAll_8 cs_200 ?_
    refine h_icmpge (tgt := 54) dX3_readAll_11 rfl (fun c_11 => ?_) (fun c_11 => ?_)
    · rw [nI_leI (by omega) (by omega)] at c_11
      refine h_return dX3_readAll_54 rfl ?_
      exact hF _ f m1 hrf hf200 hP1 hf1 hm1 hm1b
    · rw [nI_leI (by omega) (by omega)] at c_11
      refine h_aload_n dX3_readAll_14 rfl ?_
      refine h_getI dX3_readAll_15 f_X3_47_3 rfl rfl ?_
      refine h_ldc (v := nI 6385252) dX3_readAll_18 k4_10 ?_
      refine h_icmpne (tgt := 54) dX3_readAll_20 rfl (fun c_20 => ?_) (fun c_20 => ?_)
      · refine h_return dX3_readAll_54 rfl ?_
        exact hF _ f m1 hrf hf200 hP1 hf1 hm1 hm1b
      · refine h_aload_n dX3_readAll_23 rfl ?_
        refine h_getI dX3_readAll_24 f_X3_53_3 rfl hf1 ?_
        refine h_iconst dX3_readAll_27 ci_m1 ?_
        refine h_icmpne (tgt := 54) dX3_readAll_28 rfl (fun c_28 => ?_) (fun c_28 => ?_)
        · refine h_return dX3_readAll_54 rfl ?_
          exact hF _ f m1 hrf hf200 hP1 hf1 hm1 hm1b
        · exact absurd c_28 (nI_nn (by omega) (by decide))
  have Lo : ∀ (q i e1 N1 m1 : Nat) (a : Option qP) (v : qP) (I1 : hI), nt - e1 < q → run tp nt N1 (some v) e1 ((o, a, 0) :: fs) = r → CX I1 tp nt → e1 ≤ nt → CT I1 tp nt e1 → I1 55 13 = -1 → I1 55 3 = nI m1 → PF I I1 → PB I I1 m → CP I1 m m1 (2 * B) (aj a v) → 5 * m1 + 1 + 2 * e ≤ 2 * e1 + 5 * m → e + 2 * i ≤ e1 → nt < N1 + e1 → HV l mX3_readAll (dp + 3) 0 0 7 [some (.ref 55), some (.int (nI op)), some (.int (nI i))] [] hSH I1 J (hRR lt (some 61)) Q := by
    intro q
    induction q with
    | zero => intro i e1 N1 m1; intros; omega
    | succ q ih =>
      intro i e1 N1 m1 a v I1 h1 hr1 hX1 h1e hT1 hf1 hm1 hP1 hb1 hc1 hq1 hi1 hN1
      obtain ⟨N1, rfl⟩ : ∃ z, N1 = z + 1 := ⟨N1 - 1, by omega⟩
      refine h_iload_n dX3_readAll_7 rfl ?_
      refine h_sipush dX3_readAll_8 cs_200 ?_
      refine h_icmpge (tgt := 54) dX3_readAll_11 rfl (fun c_11 => ?_) (fun c_11 => ?_)
      · rw [nI_leI (by omega) (by omega)] at c_11
        omega
      · rw [nI_leI (by omega) (by omega)] at c_11
        refine h_aload_n dX3_readAll_14 rfl ?_
        refine h_getI dX3_readAll_15 f_X3_47_3 rfl hT1.2.2.1 ?_
        refine h_ldc (v := nI 6385252) dX3_readAll_18 k4_10 ?_
        refine h_icmpne (tgt := 54) dX3_readAll_20 rfl (fun c_20 => ?_) (fun c_20 => ?_)
        · refine h_return dX3_readAll_54 rfl ?_
          exact hO I1 e1 (N1 + 1) m1 a v hr1 (fun z => c_20 ((tI_4 h1e hb).mpr z)) hN1 h1e hP1 hT1 hf1 hm1 hq1 hb1 hc1
        · refine h_aload_n dX3_readAll_23 rfl ?_
          refine h_getI dX3_readAll_24 f_X3_53_3 rfl hf1 ?_
          refine h_iconst dX3_readAll_27 ci_m1 ?_
          refine h_icmpne (tgt := 54) dX3_readAll_28 rfl (fun c => absurd (by decide) c) (fun _ => ?_)
          refine h_aload_n dX3_readAll_31 rfl ?_
          refine h_cV0 dX3_readAll_32 k3_204 oVX3_step rfl rfl ?_
          have hct := (tI_4 h1e hb).mp c_20
          have l1 := (tE_rng tp h1e).2.2.2.2.1 hct
          have l2 := (tE_rng tp h1e).2.1
          have s1 := (tk_rng tp h1e).1
          have hr2 := hr1
          rw [run_and hct] at hr2
          refine c_step hX1 hT1.2.1 l2 (fun I2 hS2 hT2 => ?_)
          have hX2 := CX_pf (SF_pf hS2) hX1
          have hf2 : I2 55 13 = -1 := (SF_k hS2 (by decide) (by decide) (by decide) (by decide)).trans hf1
          have hm2 : I2 55 3 = nI m1 := (SF_k hS2 (by decide) (by decide) (by decide) (by decide)).trans hm1
          refine h_aload_n dX3_readAll_35 rfl ?_
          refine h_iload_n dX3_readAll_36 rfl ?_
          refine h_cV1 dX3_readAll_37 k3_225 oVX3_readOne rfl rfl ?_
          refine c_readOne (w := w) (B := B) IH hX2 l2 hT2 hf2 hm2 (by omega) (by omega) hB hw hfs hr2 (fun I3 f m3 hrf hf200 hP3 hf3 hm3 hm3b => ?_) (fun I3 e3 N3 m3 v3 hr3 hN3 he3 hP3 hT3 hf3 hm3 hq3 hb3 hc3 => ?_)
          · refine h_aload_n dX3_readAll_40 rfl ?_
            refine h_ldc (v := nI 6385252) dX3_readAll_41 k4_10 ?_
            refine h_iconst dX3_readAll_43 ci_0 ?_
            refine h_iconst dX3_readAll_44 ci_0 ?_
            refine h_cV3 dX3_readAll_45 k4_6 oVX3_note rfl rfl ?_
            refine c_noteF hm3 hm3b (fun I5 m5 hN5 hm5 hm5b => ?_)
            refine h_iinc (v := nI (i + 1)) dX3_readAll_48 rfl (nI_1 _) (Nat.le_of_ble_eq_true rfl) ?_
            refine h_goto (tgt := 7) dX3_readAll_51 rfl ?_
            exact Fl (i + 1) I5 f m5 (by omega) hrf hf200 (PF_tr (PF_tr hP1 (SF_pf hS2)) (PF_tr hP3 (NF_pf hN5))) (((NF_iff.mp hN5).2 13 (by decide)).trans hf3) hm5 hm5b
          · refine h_aload_n dX3_readAll_40 rfl ?_
            refine h_ldc (v := nI 6385252) dX3_readAll_41 k4_10 ?_
            refine h_iconst dX3_readAll_43 ci_0 ?_
            refine h_iconst dX3_readAll_44 ci_0 ?_
            refine h_cV3 dX3_readAll_45 k4_6 oVX3_note rfl rfl ?_
            have hlt5 : m3 < 100 := by omega
            refine c_note hm3 hlt5 (fun I5 hN5 hm5 hN6 => ?_)
            refine h_iinc (v := nI (i + 1)) dX3_readAll_48 rfl (nI_1 _) (Nat.le_of_ble_eq_true rfl) ?_
            refine h_goto (tgt := 7) dX3_readAll_51 rfl ?_
            have mm := hc1.1
            have mm3 := hc3.1
            exact ih (i + 1) e3 N3 (m3 + 1) (some (aj a v)) v3 I5 (by omega) hr3 (CX_pf (NF_pf hN5) (CX_pf hP3 hX2)) he3 (CT_nf hN5 hT3) (((NF_iff.mp hN5).2 13 (by decide)).trans hf3) hm5 (PF_tr (PF_tr hP1 (SF_pf hS2)) (PF_tr hP3 (NF_pf hN5))) (PB_tr (PB_tr (PB_tr hb1 (SF_b hS2 m) (Nat.le_refl m)) (fun j hj => hb3 j (by omega)) (Nat.le_refl m)) (fun j hj => hN6.1 j (by omega)) (Nat.le_refl m)) (CP_and (B := 2 * B) (by omega) (CP_fr hc1 (PB_tr (SF_b hS2 m1) hb3 (Nat.le_refl m1))) (CP_w hc3 (by omega)) hN6) (by omega) (by omega) hN3
  show HV l mX3_readAll (dp + 3) 0 0 0 [some (.ref 55), some (.int (nI op)), none] [] hSH I J (hRR lt (some 61)) Q
  refine h_aload_n dX3_readAll_0 rfl ?_
  refine h_iload_n dX3_readAll_1 rfl ?_
  refine h_cV1 dX3_readAll_2 k3_225 oVX3_readOne rfl rfl ?_
  refine c_readOne (w := w) (B := B) IH hX h hT hf hm h5 hN hB hw hfs hr (fun I3 f m3 hrf hf200 hP3 hf3 hm3 hm3b => ?_) (fun I3 e3 N3 m3 v3 hr3 hN3 he3 hP3 hT3 hf3 hm3 hq3 hb3 hc3 => ?_)
  · refine h_iconst dX3_readAll_5 ci_0 ?_
    refine h_istore_n dX3_readAll_6 (Nat.le_of_ble_eq_true rfl) ?_
    exact Fl 0 I3 f m3 (by omega) hrf hf200 hP3 hf3 hm3 hm3b
  · refine h_iconst dX3_readAll_5 ci_0 ?_
    refine h_istore_n dX3_readAll_6 (Nat.le_of_ble_eq_true rfl) ?_
    have mm := hc3.1
    exact Lo (nt + 1) 0 e3 N3 m3 none v3 I3 (by omega) hr3 (CX_pf hP3 hX) he3 hT3 hf3 hm3 hP3 hb3 (CP_w hc3 (by omega)) hq3 (by omega) hN3
theorem c_readCond {l : Launch} {dp : Nat} {tp : Nat → Nat} {nt e m N B op w : Nat} {fs : List qF} {r : Nat ⊕ (Nat × qP)} {I : hI} {J : hJ} {lt : Option Nat} {Q : hQ} (IH : ∀ w2, w = w2 + 1 → rcW l w2 dp) (hX : CX I tp nt) (h : e ≤ nt) (hT : CT I tp nt e) (hf : I 55 13 = -1) (hm : I 55 3 = nI m) (h5 : 5 * m ≤ 2 * e) (hN : nt < N + e) (hB : B * 4 ^ w ≤ 128) (hw : op + w = 3) (hfs : fs.length = op) (hr : run tp nt N none e ((none, none, 0) :: fs) = r) (hF : ∀ I2 f m2, r = Sum.inl f → f ≤ 200 → PF I I2 → I2 55 13 = nI f → I2 55 3 = nI m2 → m2 ≤ 100 → Q none hSH I2 J (hRR lt (some 61))) (hO : ∀ I2 e2 N2 m2 o a v, run tp nt N2 (some v) e2 ((o, a, 0) :: fs) = r → ¬ tC tp nt e2 = 3 → ¬ tC tp nt e2 = 4 → nt < N2 + e2 → e2 ≤ nt → PF I I2 → CT I2 tp nt e2 → I2 55 13 = -1 → I2 55 3 = nI m2 → 5 * m2 + 1 + 2 * e ≤ 2 * e2 + 5 * m → PB I I2 m → CP I2 m m2 (B) (oj o (aj a v)) → Q none hSH I2 J (hRR lt (some 61)))  : HC l mX3_readCond (dp + 4) 0 0 [.ref 55, .int (nI op)] hSH I J (hRR lt (some 61)) Q := by
  refine HC.of (by decide +kernel) rfl (Nat.le_of_ble_eq_true rfl) ?_
  have hb : ∀ j, j < nt → tp j < 256 := fun j hj => (hX.2.2 j hj).1
  have h200 := hX.1
  have he1 := (tE_rng tp h).2.1
  have hs0 := tk_rng tp h
  have hB1 := pw1 hB
  have Fl : ∀ (i : Nat) (I1 : hI) (f m1 : Nat), i ≤ 200 → r = Sum.inl f → f ≤ 200 → PF I I1 → I1 55 13 = nI f → I1 55 3 = nI m1 → m1 ≤ 100 → HV l mX3_readCond (dp + 4) 0 0 7 [some (.ref 55), some (.int (nI op)), some (.int (nI i))] [] hSH I1 J (hRR lt (some 61)) Q := by
    intro i I1 f m1 hi hrf hf200 hP1 hf1 hm1 hm1b
    refine h_iload_n dX3_readCond_7 rfl ?_
    refine h_sipush dX3_readCond_8 cs_200 ?_
    refine h_icmpge (tgt := 56) dX3_readCond_11 rfl (fun c_11 => ?_) (fun c_11 => ?_)
    · rw [nI_leI (by omega) (by omega)] at c_11
      refine h_return dX3_readCond_56 rfl ?_
      exact hF _ f m1 hrf hf200 hP1 hf1 hm1 hm1b
    · rw [nI_leI (by omega) (by omega)] at c_11
      refine h_aload_n dX3_readCond_14 rfl ?_
      refine h_getI dX3_readCond_15 f_X3_47_3 rfl rfl ?_
      refine h_sipush dX3_readCond_18 cs_28530 ?_
      refine h_icmpne (tgt := 56) dX3_readCond_21 rfl (fun c_21 => ?_) (fun c_21 => ?_)
      · refine h_return dX3_readCond_56 rfl ?_
        exact hF _ f m1 hrf hf200 hP1 hf1 hm1 hm1b
      · refine h_aload_n dX3_readCond_24 rfl ?_
        refine h_getI dX3_readCond_25 f_X3_53_3 rfl hf1 ?_
        refine h_iconst dX3_readCond_28 ci_m1 ?_
        refine h_icmpne (tgt := 56) dX3_readCond_29 rfl (fun c_29 => ?_) (fun c_29 => ?_)
        · refine h_return dX3_readCond_56 rfl ?_
          exact hF _ f m1 hrf hf200 hP1 hf1 hm1 hm1b
        · exact absurd c_29 (nI_nn (by omega) (by decide))
  have Lo : ∀ (q i e1 N1 m1 : Nat) (o a : Option qP) (v : qP) (I1 : hI), nt - e1 < q → run tp nt N1 (some v) e1 ((o, a, 0) :: fs) = r → ¬ tC tp nt e1 = 4 → CX I1 tp nt → e1 ≤ nt → CT I1 tp nt e1 → I1 55 13 = -1 → I1 55 3 = nI m1 → PF I I1 → PB I I1 m → CP I1 m m1 (B) (oj o (aj a v)) → 5 * m1 + 1 + 2 * e ≤ 2 * e1 + 5 * m → e + 2 * i ≤ e1 → nt < N1 + e1 → HV l mX3_readCond (dp + 4) 0 0 7 [some (.ref 55), some (.int (nI op)), some (.int (nI i))] [] hSH I1 J (hRR lt (some 61)) Q := by
    intro q
    induction q with
    | zero => intro i e1 N1 m1; intros; omega
    | succ q ih =>
      intro i e1 N1 m1 o a v I1 h1 hr1 n41 hX1 h1e hT1 hf1 hm1 hP1 hb1 hc1 hq1 hi1 hN1
      obtain ⟨N1, rfl⟩ : ∃ z, N1 = z + 1 := ⟨N1 - 1, by omega⟩
      refine h_iload_n dX3_readCond_7 rfl ?_
      refine h_sipush dX3_readCond_8 cs_200 ?_
      refine h_icmpge (tgt := 56) dX3_readCond_11 rfl (fun c_11 => ?_) (fun c_11 => ?_)
      · rw [nI_leI (by omega) (by omega)] at c_11
        omega
      · rw [nI_leI (by omega) (by omega)] at c_11
        refine h_aload_n dX3_readCond_14 rfl ?_
        refine h_getI dX3_readCond_15 f_X3_47_3 rfl hT1.2.2.1 ?_
        refine h_sipush dX3_readCond_18 cs_28530 ?_
        refine h_icmpne (tgt := 56) dX3_readCond_21 rfl (fun c_21 => ?_) (fun c_21 => ?_)
        · refine h_return dX3_readCond_56 rfl ?_
          exact hO I1 e1 (N1 + 1) m1 o a v hr1 (fun z => c_21 ((tI_3 h1e hb).mpr z)) n41 hN1 h1e hP1 hT1 hf1 hm1 hq1 hb1 hc1
        · refine h_aload_n dX3_readCond_24 rfl ?_
          refine h_getI dX3_readCond_25 f_X3_53_3 rfl hf1 ?_
          refine h_iconst dX3_readCond_28 ci_m1 ?_
          refine h_icmpne (tgt := 56) dX3_readCond_29 rfl (fun c => absurd (by decide) c) (fun _ => ?_)
          refine h_aload_n dX3_readCond_32 rfl ?_
          refine h_cV0 dX3_readCond_33 k3_204 oVX3_step rfl rfl ?_
          have hct := (tI_3 h1e hb).mp c_21
          have l1 := (tE_rng tp h1e).2.2.2.1 hct
          have l2 := (tE_rng tp h1e).2.1
          have s1 := (tk_rng tp h1e).1
          have hr2 := hr1
          rw [run_or hct] at hr2
          refine c_step hX1 hT1.2.1 l2 (fun I2 hS2 hT2 => ?_)
          have hX2 := CX_pf (SF_pf hS2) hX1
          have hf2 : I2 55 13 = -1 := (SF_k hS2 (by decide) (by decide) (by decide) (by decide)).trans hf1
          have hm2 : I2 55 3 = nI m1 := (SF_k hS2 (by decide) (by decide) (by decide) (by decide)).trans hm1
          refine h_aload_n dX3_readCond_36 rfl ?_
          refine h_iload_n dX3_readCond_37 rfl ?_
          refine h_cV1 dX3_readCond_38 k3_221 oVX3_readAll rfl rfl ?_
          refine c_readAll (w := w) (B := B) IH hX2 l2 hT2 hf2 hm2 (by omega) (by omega) hB hw hfs hr2 (fun I3 f m3 hrf hf200 hP3 hf3 hm3 hm3b => ?_) (fun I3 e3 N3 m3 a3 v3 hr3 n43 hN3 he3 hP3 hT3 hf3 hm3 hq3 hb3 hc3 => ?_)
          · refine h_aload_n dX3_readCond_41 rfl ?_
            refine h_sipush dX3_readCond_42 cs_28530 ?_
            refine h_iconst dX3_readCond_45 ci_0 ?_
            refine h_iconst dX3_readCond_46 ci_0 ?_
            refine h_cV3 dX3_readCond_47 k4_6 oVX3_note rfl rfl ?_
            refine c_noteF hm3 hm3b (fun I5 m5 hN5 hm5 hm5b => ?_)
            refine h_iinc (v := nI (i + 1)) dX3_readCond_50 rfl (nI_1 _) (Nat.le_of_ble_eq_true rfl) ?_
            refine h_goto (tgt := 7) dX3_readCond_53 rfl ?_
            exact Fl (i + 1) I5 f m5 (by omega) hrf hf200 (PF_tr (PF_tr hP1 (SF_pf hS2)) (PF_tr hP3 (NF_pf hN5))) (((NF_iff.mp hN5).2 13 (by decide)).trans hf3) hm5 hm5b
          · refine h_aload_n dX3_readCond_41 rfl ?_
            refine h_sipush dX3_readCond_42 cs_28530 ?_
            refine h_iconst dX3_readCond_45 ci_0 ?_
            refine h_iconst dX3_readCond_46 ci_0 ?_
            refine h_cV3 dX3_readCond_47 k4_6 oVX3_note rfl rfl ?_
            have hlt5 : m3 < 100 := by omega
            refine c_note hm3 hlt5 (fun I5 hN5 hm5 hN6 => ?_)
            refine h_iinc (v := nI (i + 1)) dX3_readCond_50 rfl (nI_1 _) (Nat.le_of_ble_eq_true rfl) ?_
            refine h_goto (tgt := 7) dX3_readCond_53 rfl ?_
            have mm := hc1.1
            have mm3 := hc3.1
            exact ih (i + 1) e3 N3 (m3 + 1) (some (oj o (aj a v))) a3 v3 I5 (by omega) hr3 n43 (CX_pf (NF_pf hN5) (CX_pf hP3 hX2)) he3 (CT_nf hN5 hT3) (((NF_iff.mp hN5).2 13 (by decide)).trans hf3) hm5 (PF_tr (PF_tr hP1 (SF_pf hS2)) (PF_tr hP3 (NF_pf hN5))) (PB_tr (PB_tr (PB_tr hb1 (SF_b hS2 m) (Nat.le_refl m)) (fun j hj => hb3 j (by omega)) (Nat.le_refl m)) (fun j hj => hN6.1 j (by omega)) (Nat.le_refl m)) (CP_or (B := B) (by omega) (CP_fr hc1 (PB_tr (SF_b hS2 m1) hb3 (Nat.le_refl m1))) hc3 hN6) (by omega) (by omega) hN3
  show HV l mX3_readCond (dp + 4) 0 0 0 [some (.ref 55), some (.int (nI op)), none] [] hSH I J (hRR lt (some 61)) Q
  refine h_aload_n dX3_readCond_0 rfl ?_
  refine h_iload_n dX3_readCond_1 rfl ?_
  refine h_cV1 dX3_readCond_2 k3_221 oVX3_readAll rfl rfl ?_
  refine c_readAll (w := w) (B := B) IH hX h hT hf hm h5 hN hB hw hfs hr (fun I3 f m3 hrf hf200 hP3 hf3 hm3 hm3b => ?_) (fun I3 e3 N3 m3 a3 v3 hr3 n43 hN3 he3 hP3 hT3 hf3 hm3 hq3 hb3 hc3 => ?_)
  · refine h_iconst dX3_readCond_5 ci_0 ?_
    refine h_istore_n dX3_readCond_6 (Nat.le_of_ble_eq_true rfl) ?_
    exact Fl 0 I3 f m3 (by omega) hrf hf200 hP3 hf3 hm3 hm3b
  · refine h_iconst dX3_readCond_5 ci_0 ?_
    refine h_istore_n dX3_readCond_6 (Nat.le_of_ble_eq_true rfl) ?_
    have mm := hc3.1
    exact Lo (nt + 1) 0 e3 N3 m3 none a3 v3 I3 (by omega) hr3 n43 (CX_pf hP3 hX) he3 hT3 hf3 hm3 hP3 hb3 (CP_w hc3 (by omega)) hq3 (by omega) hN3
theorem rcW_0 {l : Launch} {dp : Nat} : rcW l 0 (dp + 4) := fun tp nt e m N B op fs r I J lt Q hX h hT hf hm h5 hN hB hw hfs hr hF hO => c_readCond (w := 0) (fun w2 z => absurd z (by omega)) hX h hT hf hm h5 hN hB hw hfs hr hF hO
theorem rcW_s {l : Launch} {w dp : Nat} (IH : rcW l w dp) : rcW l (w + 1) (dp + 4) := fun tp nt e m N B op fs r I J lt Q hX h hT hf hm h5 hN hB hw hfs hr hF hO => c_readCond (w := w + 1) (fun w2 z => by cases z; exact IH) hX h hT hf hm h5 hN hB hw hfs hr hF hO
theorem rcW_3 {l : Launch} {dp : Nat} : rcW l 3 (dp + 16) := rcW_s (rcW_s (rcW_s rcW_0))
