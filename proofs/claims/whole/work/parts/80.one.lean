theorem c_readOne {l : Launch} {dp : Nat} {tp : Nat → Nat} {nt e m N B op w : Nat} {fs : List qF} {r : Nat ⊕ (Nat × qP)} {I : hI} {J : hJ} {lt : Option Nat} {o a : Option qP} {Q : hQ} (IH : ∀ w2, w = w2 + 1 → rcW l w2 dp) (hX : CX I tp nt) (h : e ≤ nt) (hT : CT I tp nt e) (hf : I 55 13 = -1) (hm : I 55 3 = nI m) (h5 : 5 * m ≤ 2 * e) (hN : nt < N + e) (hB : B * 4 ^ w ≤ 128) (hw : op + w = 3) (hfs : fs.length = op) (hr : run tp nt N none e ((o, a, 0) :: fs) = r) (hF : ∀ I2 f m2, r = Sum.inl f → f ≤ 200 → PF I I2 → I2 55 13 = nI f → I2 55 3 = nI m2 → m2 ≤ 100 → Q none hSH I2 J (hRR lt (some 61))) (hO : ∀ I2 e2 N2 m2 v, run tp nt N2 (some v) e2 ((o, a, 0) :: fs) = r → nt < N2 + e2 → e2 ≤ nt → PF I I2 → CT I2 tp nt e2 → I2 55 13 = -1 → I2 55 3 = nI m2 → 5 * m2 + 1 + 2 * e ≤ 2 * e2 + 5 * m → PB I I2 m → CP I2 m m2 (4 * B) (v) → Q none hSH I2 J (hRR lt (some 61)))  : HC l mX3_readOne (dp + 2) 0 0 [.ref 55, .int (nI op)] hSH I J (hRR lt (some 61)) Q := by
  refine HC.of (by decide +kernel) rfl (Nat.le_of_ble_eq_true rfl) ?_
  have hb : ∀ j, j < nt → tp j < 256 := fun j hj => (hX.2.2 j hj).1
  have h200 := hX.1
  have he1 := (tE_rng tp h).2.1
  have hs0 := tk_rng tp h
  have hB1 := pw1 hB
  have Lo : ∀ (q k e1 N1 : Nat) (I1 : hI), nt - e1 < q → run tp nt N1 none e1 ((o, a, k) :: fs) = r → CX I1 tp nt → e1 ≤ nt → CT I1 tp nt e1 → I1 55 13 = -1 → I1 55 3 = nI m → PF I I1 → PB I I1 m → e + 3 * k ≤ e1 → nt < N1 + e1 → HV l mX3_readOne (dp + 2) 0 0 4 [some (.ref 55), some (.int (nI op)), some (.int (nI (k % 2))), some (.int (nI k))] [] hSH I1 J (hRR lt (some 61)) Q := by
    intro q
    induction q with
    | zero => intro k e1 N1 I1 h1; omega
    | succ q ih =>
      intro k e1 N1 I1 h1 hr1 hX1 h1e hT1 hf1 hm1 hP1 hb1 hk3 hN1
      obtain ⟨N1, rfl⟩ : ∃ z, N1 = z + 1 := ⟨N1 - 1, by omega⟩
      have hk2 : k % 2 < 2 := Nat.mod_lt _ (by omega)
      refine h_iload_n dX3_readOne_4 rfl ?_
      refine h_sipush dX3_readOne_5 cs_200 ?_
      refine h_icmpge (tgt := 40) dX3_readOne_8 rfl (fun c_8 => ?_) (fun c_8 => ?_)
      · rw [nI_leI (by omega) (by omega)] at c_8
        omega
      · rw [nI_leI (by omega) (by omega)] at c_8
        refine h_aload_n dX3_readOne_11 rfl ?_
        refine h_getI dX3_readOne_12 f_X3_47_3 rfl hT1.2.2.1 ?_
        refine h_ldc (v := nI 7237492) dX3_readOne_15 k3_229 ?_
        refine h_icmpne (tgt := 40) dX3_readOne_17 rfl (fun c_17 => ?_) (fun c_17 => ?_)
        · refine h_aload_n dX3_readOne_40 rfl ?_
          refine h_getI dX3_readOne_41 f_X3_47_3 rfl hT1.2.2.1 ?_
          refine h_bipush dX3_readOne_44 cb_40 ?_
          refine h_icmpne (tgt := 59) dX3_readOne_46 rfl (fun c_46 => ?_) (fun c_46 => ?_)
          · refine h_aload_n dX3_readOne_59 rfl ?_
            refine h_cV0 dX3_readOne_60 k3_234 oVX3_readComparison rfl rfl ?_
            have n5 : ¬ tC tp nt e1 = 5 := fun z => c_17 ((tI_5 h1e hb).mpr z)
            have n60 : ¬ tC tp nt e1 = 60 := fun z => c_46 ((tI_m40 h1e hb).mpr z)
            refine c_readComparison hX1 h1e hT1 hf1 hm1 (by omega) (fun I3 f hcf hP3 hf3 hm3 => ?_) (fun I3 e3 hcf hP3 hT3 hf3 hm3 hb3 hc3 hq3 he3 => ?_)
            · have hrf : r = Sum.inl f := by rw [← hr1, run_cf n5 n60 hcf]
              have hf200 : f ≤ 200 := Nat.le_trans (cf_le h1e hcf) h200
              obtain ⟨m3, hm3, hm3b⟩ : ∃ z, I3 55 3 = nI z ∧ z ≤ 100 := ⟨m, hm3, by omega⟩
              refine h_iload_n dX3_readOne_63 rfl ?_
              refine h_ifeq (tgt := 75) dX3_readOne_64 rfl (fun c_64 => ?_) (fun c_64 => ?_)
              · rw [show (0 : Int32) = nI 0 from rfl, nI_eq (by omega) (by omega)] at c_64
                refine h_return dX3_readOne_75 rfl ?_
                exact hF _ f m3 hrf hf200 (PF_tr hP1 hP3) hf3 hm3 hm3b
              · rw [show (0 : Int32) = nI 0 from rfl, nI_eq (by omega) (by omega)] at c_64
                refine h_aload_n dX3_readOne_67 rfl ?_
                refine h_ldc (v := nI 7237492) dX3_readOne_68 k3_229 ?_
                refine h_iconst dX3_readOne_70 ci_0 ?_
                refine h_iconst dX3_readOne_71 ci_0 ?_
                refine h_cV3 dX3_readOne_72 k4_6 oVX3_note rfl rfl ?_
                refine c_noteF hm3 hm3b (fun I5 m5 hN5 hm5 hm5b => ?_)
                refine h_return dX3_readOne_75 rfl ?_
                exact hF _ f m5 hrf hf200 (PF_tr (PF_tr hP1 hP3) (NF_pf hN5)) (((NF_iff.mp hN5).2 13 (by decide)).trans hf3) hm5 hm5b
            · have hr3 := hr1
              rw [run_cm n5 n60 hcf] at hr3
              have hc3 := CP_w hc3 (show 4 * B ≤ 2048 by omega)
              obtain ⟨m3, em3⟩ : ∃ z, z = m + 1 := ⟨_, rfl⟩
              rw [← em3] at hm3 hc3
              obtain ⟨N3, eN3⟩ : ∃ z, z = N1 := ⟨_, rfl⟩
              rw [← eN3] at hr3
              refine h_iload_n dX3_readOne_63 rfl ?_
              refine h_ifeq (tgt := 75) dX3_readOne_64 rfl (fun c_64 => ?_) (fun c_64 => ?_)
              · rw [show (0 : Int32) = nI 0 from rfl, nI_eq (by omega) (by omega)] at c_64
                refine h_return dX3_readOne_75 rfl ?_
                have hx0 := xr_0 (P := cmpP tp nt e1) (k := k) (by omega)
                rw [← hx0] at hc3
                exact hO _ e3 N3 m3 _ hr3 (by omega) he3 (PF_tr hP1 hP3) hT3 hf3 hm3 (by omega) (PB_tr hb1 hb3 (Nat.le_refl m)) hc3
              · rw [show (0 : Int32) = nI 0 from rfl, nI_eq (by omega) (by omega)] at c_64
                refine h_aload_n dX3_readOne_67 rfl ?_
                refine h_ldc (v := nI 7237492) dX3_readOne_68 k3_229 ?_
                refine h_iconst dX3_readOne_70 ci_0 ?_
                refine h_iconst dX3_readOne_71 ci_0 ?_
                refine h_cV3 dX3_readOne_72 k4_6 oVX3_note rfl rfl ?_
                have hlt5 : m3 < 100 := by omega
                refine c_note hm3 hlt5 (fun I5 hN5 hm5 hN6 => ?_)
                refine h_return dX3_readOne_75 rfl ?_
                have hc5 := CP_not (by omega) hc3 hN6
                rw [← xr_1 (k := k) (by omega)] at hc5
                exact hO _ e3 N3 (m3 + 1) _ hr3 (by omega) he3 (PF_tr (PF_tr hP1 hP3) (NF_pf hN5)) (CT_nf hN5 hT3) (((NF_iff.mp hN5).2 13 (by decide)).trans hf3) hm5 (by omega) (PB_tr (PB_tr hb1 hb3 (Nat.le_refl m)) hN6.1 (by have := hc3.1; omega)) hc5
          · refine h_aload_n dX3_readOne_49 rfl ?_
            refine h_iload_n dX3_readOne_50 rfl ?_
            refine h_iconst dX3_readOne_51 ci_1 ?_
            refine h_iaddN dX3_readOne_52 ?_
            refine h_cV1 dX3_readOne_53 k3_230 oVX3_readOpened rfl rfl ?_
            refine c_readOpened (k := k) (w := w) IH hX1 h1e hT1 hf1 hm1 (by omega) (by omega) hB hw hfs ((tI_m40 h1e hb).mp c_46) hr1 (fun I3 f m3 hrf hf200 hP3 hf3 hm3 hm3b => ?_) (fun I3 e3 N3 m3 P hr3 hN3 he3 hP3 hT3 hf3 hm3 hq3 hb3 hc3 => ?_)
            · refine h_goto (tgt := 63) dX3_readOne_56 rfl ?_
              refine h_iload_n dX3_readOne_63 rfl ?_
              refine h_ifeq (tgt := 75) dX3_readOne_64 rfl (fun c_64 => ?_) (fun c_64 => ?_)
              · rw [show (0 : Int32) = nI 0 from rfl, nI_eq (by omega) (by omega)] at c_64
                refine h_return dX3_readOne_75 rfl ?_
                exact hF _ f m3 hrf hf200 (PF_tr hP1 hP3) hf3 hm3 hm3b
              · rw [show (0 : Int32) = nI 0 from rfl, nI_eq (by omega) (by omega)] at c_64
                refine h_aload_n dX3_readOne_67 rfl ?_
                refine h_ldc (v := nI 7237492) dX3_readOne_68 k3_229 ?_
                refine h_iconst dX3_readOne_70 ci_0 ?_
                refine h_iconst dX3_readOne_71 ci_0 ?_
                refine h_cV3 dX3_readOne_72 k4_6 oVX3_note rfl rfl ?_
                refine c_noteF hm3 hm3b (fun I5 m5 hN5 hm5 hm5b => ?_)
                refine h_return dX3_readOne_75 rfl ?_
                exact hF _ f m5 hrf hf200 (PF_tr (PF_tr hP1 hP3) (NF_pf hN5)) (((NF_iff.mp hN5).2 13 (by decide)).trans hf3) hm5 hm5b
            · refine h_goto (tgt := 63) dX3_readOne_56 rfl ?_
              refine h_iload_n dX3_readOne_63 rfl ?_
              refine h_ifeq (tgt := 75) dX3_readOne_64 rfl (fun c_64 => ?_) (fun c_64 => ?_)
              · rw [show (0 : Int32) = nI 0 from rfl, nI_eq (by omega) (by omega)] at c_64
                refine h_return dX3_readOne_75 rfl ?_
                have hx0 := xr_0 (P := P) (k := k) (by omega)
                rw [← hx0] at hc3
                exact hO _ e3 N3 m3 _ hr3 (by omega) he3 (PF_tr hP1 hP3) hT3 hf3 hm3 (by omega) (PB_tr hb1 hb3 (Nat.le_refl m)) hc3
              · rw [show (0 : Int32) = nI 0 from rfl, nI_eq (by omega) (by omega)] at c_64
                refine h_aload_n dX3_readOne_67 rfl ?_
                refine h_ldc (v := nI 7237492) dX3_readOne_68 k3_229 ?_
                refine h_iconst dX3_readOne_70 ci_0 ?_
                refine h_iconst dX3_readOne_71 ci_0 ?_
                refine h_cV3 dX3_readOne_72 k4_6 oVX3_note rfl rfl ?_
                have hlt5 : m3 < 100 := by omega
                refine c_note hm3 hlt5 (fun I5 hN5 hm5 hN6 => ?_)
                refine h_return dX3_readOne_75 rfl ?_
                have hc5 := CP_not (by omega) hc3 hN6
                rw [← xr_1 (k := k) (by omega)] at hc5
                exact hO _ e3 N3 (m3 + 1) _ hr3 (by omega) he3 (PF_tr (PF_tr hP1 hP3) (NF_pf hN5)) (CT_nf hN5 hT3) (((NF_iff.mp hN5).2 13 (by decide)).trans hf3) hm5 (by omega) (PB_tr (PB_tr hb1 hb3 (Nat.le_refl m)) hN6.1 (by have := hc3.1; omega)) hc5
        · refine h_aload_n dX3_readOne_20 rfl ?_
          refine h_cV0 dX3_readOne_21 k3_204 oVX3_step rfl rfl ?_
          have hc5 := (tI_5 h1e hb).mp c_17
          have l1 := (tE_rng tp h1e).2.2.2.2.2 hc5
          have s1 := (tk_rng tp h1e).1
          have l2 := (tE_rng tp h1e).2.1
          refine c_step hX1 hT1.2.1 (tE_rng tp h1e).2.1 (fun I2 hS2 hT2 => ?_)
          refine h_iload_n dX3_readOne_24 rfl ?_
          refine h_ifne (tgt := 32) dX3_readOne_25 rfl (fun c_25 => ?_) (fun c_25 => ?_)
          · rw [show (0 : Int32) = nI 0 from rfl, nI_eq (by omega) (by omega)] at c_25
            refine h_iconst dX3_readOne_32 ci_0 ?_
            refine h_istore_n dX3_readOne_33 (Nat.le_of_ble_eq_true rfl) ?_
            refine h_iinc (v := nI (k + 1)) dX3_readOne_34 rfl (nI_1 _) (Nat.le_of_ble_eq_true rfl) ?_
            refine h_goto (tgt := 4) dX3_readOne_37 rfl ?_
            have ek : (k + 1) % 2 = 0 := by omega
            have hih := ih (k + 1) (tE tp nt e1) N1 I2 (by omega) (by rw [← hr1, run_not hc5]) (CX_pf (SF_pf hS2) hX1) (tE_rng tp h1e).2.1 hT2 ((SF_k hS2 (by decide) (by decide) (by decide) (by decide)).trans hf1) ((SF_k hS2 (by decide) (by decide) (by decide) (by decide)).trans hm1) (PF_tr hP1 (SF_pf hS2)) (PB_tr hb1 (SF_b hS2 m) (Nat.le_refl m)) (by omega) (by omega)
            rw [ek] at hih
            exact hih
          · rw [show (0 : Int32) = nI 0 from rfl, nI_eq (by omega) (by omega)] at c_25
            refine h_iconst dX3_readOne_28 ci_1 ?_
            refine h_goto (tgt := 33) dX3_readOne_29 rfl ?_
            refine h_istore_n dX3_readOne_33 (Nat.le_of_ble_eq_true rfl) ?_
            refine h_iinc (v := nI (k + 1)) dX3_readOne_34 rfl (nI_1 _) (Nat.le_of_ble_eq_true rfl) ?_
            refine h_goto (tgt := 4) dX3_readOne_37 rfl ?_
            have ek : (k + 1) % 2 = 1 := by omega
            have hih := ih (k + 1) (tE tp nt e1) N1 I2 (by omega) (by rw [← hr1, run_not hc5]) (CX_pf (SF_pf hS2) hX1) (tE_rng tp h1e).2.1 hT2 ((SF_k hS2 (by decide) (by decide) (by decide) (by decide)).trans hf1) ((SF_k hS2 (by decide) (by decide) (by decide) (by decide)).trans hm1) (PF_tr hP1 (SF_pf hS2)) (PB_tr hb1 (SF_b hS2 m) (Nat.le_refl m)) (by omega) (by omega)
            rw [ek] at hih
            exact hih
  show HV l mX3_readOne (dp + 2) 0 0 0 [some (.ref 55), some (.int (nI op)), none, none] [] hSH I J (hRR lt (some 61)) Q
  refine h_iconst dX3_readOne_0 ci_0 ?_
  refine h_istore_n dX3_readOne_1 (Nat.le_of_ble_eq_true rfl) ?_
  refine h_iconst dX3_readOne_2 ci_0 ?_
  refine h_istore_n dX3_readOne_3 (Nat.le_of_ble_eq_true rfl) ?_
  exact Lo (nt + 1) 0 e N I (by omega) hr hX h hT hf hm (PF_id I) (fun j _ => ⟨rfl, rfl, rfl⟩) (by omega) hN
