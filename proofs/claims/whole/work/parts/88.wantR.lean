theorem r_wantCond {l : Launch} {dp : Nat} {g : Nat → Int32} {s : Nat} {tp : Nat → Nat} {nt e : Nat} {I : hI} {J : hJ} {lt tx : Option Nat} {Q : hQ} (hb : ∀ j, j < nt → tp j < 256) (hT : rT I nt tp) (he : e ≤ nt) (hK : RK I J tp nt e) (hf : I 82 27 = -1) (h32 : I 82 32 = nI s) (hse : s ≤ e) (hE : EV g I s s (fun _ _ _ => [])) (hF : ∀ I2 J2 f, run tp nt (nt + 1) none e [(none, none, 0)] = Sum.inl f → f ≤ 200 → RF I I2 → JQ J J2 → I2 82 27 = nI f → Q none hSH I2 J2 (hRR lt tx)) (hO : ∀ I2 J2 e2 p fm2, run tp nt (nt + 1) none e [(none, none, 0)] = Sum.inr (e2, p) → e2 ≤ nt → RF I I2 → JQ J J2 → RK I2 J2 tp nt e2 → I2 82 27 = -1 → I2 82 32 = nI fm2 → fm2 ≤ e2 → EV g I2 s fm2 (bS p (fun _ _ _ => [])) → Q none hSH I2 J2 (hRR lt tx))  : HC l mX12_wantCond (dp + 6) 0 0 [.ref 82] hSH I J (hRR lt tx) Q := by
  refine HC.of (by decide +kernel) rfl (Nat.le_of_ble_eq_true rfl) ?_
  have h200 := hT.2.1
  have hse2 : s ≤ 200 := by omega
  obtain ⟨r, hr⟩ : ∃ r, r = run tp nt (nt + 1) none e [(none, none, 0)] := ⟨_, rfl⟩
  rw [← hr] at hF hO
  have Fl : ∀ (z1 z2 : Int32) (x4 : Option _) (I1 : hI) (J1 : hJ) (f fm wa : Nat), r = Sum.inl f → f ≤ 200 → RF I I1 → JQ J J1 → I1 82 27 = nI f → I1 82 32 = nI fm → I1 82 33 = nI wa → fm + wa ≤ 210 → HV l mX12_wantCond (dp + 6) 0 0 11 [some (.ref 82), some (.int z1), some (.int z2), some (.int (nI 1)), x4] [] hSH I1 J1 (hRR lt tx) Q := by
    intro z1 z2 x4 I1 J1 f fm wa hr1 hf200 hR1 hJ1 hf1 h321 h331 hfw
    refine h_iload_n dX12_wantCond_11 rfl ?_
    refine h_ifeq (tgt := 196) dX12_wantCond_12 rfl (fun c => absurd c (by decide)) (fun _ => ?_)
    refine h_aload_n dX12_wantCond_15 rfl ?_
    refine h_cV0 dX12_wantCond_16 k6_148 oVX12_isGood rfl rfl ?_
    refine r_good0 hf1 hf200 ?_
    refine h_ifeq (tgt := 196) dX12_wantCond_19 rfl (fun _ => ?_) (fun c => absurd (by decide) c)
    refine h_aload_n dX12_wantCond_196 rfl ?_
    refine h_bipush dX12_wantCond_197 cb_9 ?_
    refine h_cV1 dX12_wantCond_199 k6_203 oVX12_settle rfl rfl ?_
    refine r_settleF (le := 9) h321 h331 hfw (fun I2 fm2 wa2 hS2 h322 h332 hfw2 => ?_)
    refine h_return dX12_wantCond_202 rfl ?_
    exact hF I2 J1 f hr1 hf200 (RF_tr hR1 (SE_rf hS2)) hJ1 ((SE_f hS2 (by decide) (by decide)).trans hf1)
  have Ex : ∀ (z1 z2 : Int32) (x4 : Option _) (I1 : hI) (J1 : hJ) (e1 fm N : Nat) (o a : Option qP) (v : qP), r = Sum.inr (e1, oj o (aj a v)) → rT I1 nt tp → e1 ≤ nt → RK I1 J1 tp nt e1 → I1 82 27 = -1 → I1 82 32 = nI fm → WR I1 ((p8 a ++ p9 o).map nI ++ WO []) → EV g I1 s fm (bS v (VS [(o, a, 0)])) → fm + ((p8 a ++ p9 o).map nI ++ WO []).length ≤ e1 → nt < N + e1 → RF I I1 → JQ J J1 → HV l mX12_wantCond (dp + 6) 0 0 11 [some (.ref 82), some (.int z1), some (.int z2), some (.int (nI 0)), x4] [] hSH I1 J1 (hRR lt tx) Q := by
    intro z1 z2 x4 I1 J1 e1 fm N o a v hr1 hT1 he1 hK1 hf1 h321 hW1 hE1 hl1 hN1 hR1 hJ1
    have hlm := len_m (P := p8 a ++ p9 o) (T := WO [])
    refine h_iload_n dX12_wantCond_11 rfl ?_
    refine h_ifeq (tgt := 196) dX12_wantCond_12 rfl (fun _ => ?_) (fun c => absurd (by decide) c)
    refine h_aload_n dX12_wantCond_196 rfl ?_
    refine h_bipush dX12_wantCond_197 cb_9 ?_
    refine h_cV1 dX12_wantCond_199 k6_203 oVX12_settle rfl rfl ?_
    refine r_settle (le := 9) (P := p8 a ++ p9 o) (T := WO []) (S2 := bS (oj o (aj a v)) (fun _ _ _ => [])) (by omega) m_89 (st_WO []) h321 hW1 (by omega) hE1 (fun ki aw wh _ _ _ => rs_89 ki aw wh) (fun I2 hS2 h322 hW2 hE2 => ?_)
    refine h_return dX12_wantCond_202 rfl ?_
    exact hO I2 J1 e1 _ _ hr1 he1 (RF_tr hR1 (SE_rf hS2)) hJ1 (RK_se hS2 hK1) ((SE_f hS2 (by decide) (by decide)).trans hf1) h322 (by omega) hE2
  have Lo : ∀ (N : Nat), (∀ (k e1 fm : Nat) (x4 : Option _) (I1 : hI) (J1 : hJ) (o a : Option qP) (fs : List qF), run tp nt N none e1 ((o, a, k) :: fs) = r → fs.length ≤ 3 → rT I1 nt tp → e1 ≤ nt → RK I1 J1 tp nt e1 → I1 82 27 = -1 → I1 82 32 = nI fm → WR I1 ((pW (o, a, k)).map nI ++ WO fs) → EV g I1 s fm (VS ((o, a, k) :: fs)) → fm + ((pW (o, a, k)).map nI ++ WO fs).length ≤ e1 → nt < N + e1 → RF I I1 → JQ J J1 → HV l mX12_wantCond (dp + 6) 0 0 11 [some (.ref 82), some (.int (nI fs.length)), some (.int (nI 1)), some (.int (nI 1)), x4] [] hSH I1 J1 (hRR lt tx) Q) ∧ (∀ (e1 fm : Nat) (x4 : Option _) (I1 : hI) (J1 : hJ) (o a : Option qP) (v : qP) (fs : List qF), run tp nt N (some v) e1 ((o, a, 0) :: fs) = r → fs.length ≤ 3 → rT I1 nt tp → e1 ≤ nt → RK I1 J1 tp nt e1 → I1 82 27 = -1 → I1 82 32 = nI fm → WR I1 ((p8 a ++ p9 o).map nI ++ WO fs) → EV g I1 s fm (bS v (VS ((o, a, 0) :: fs))) → fm + ((p8 a ++ p9 o).map nI ++ WO fs).length ≤ e1 → nt < N + e1 → RF I I1 → JQ J J1 → HV l mX12_wantCond (dp + 6) 0 0 11 [some (.ref 82), some (.int (nI fs.length)), some (.int (nI 0)), some (.int (nI 1)), x4] [] hSH I1 J1 (hRR lt tx) Q) := by
    intro N
    induction N with
    | zero =>
      refine ⟨?_, ?_⟩
      · intro k e1 fm x4 I1 J1 o a fs hr1 hfs hT1 he1 hK1 hf1 h321 hW1 hE1 hl1 hN1
        omega
      · intro e1 fm x4 I1 J1 o a v fs hr1 hfs hT1 he1 hK1 hf1 h321 hW1 hE1 hl1 hN1
        omega
    | succ N ih =>
      obtain ⟨ihA, ihB⟩ := ih
      refine ⟨?_, ?_⟩
      · intro k e1 fm x4 I1 J1 o a fs hr1 hfs hT1 he1 hK1 hf1 h321 hW1 hE1 hl1 hN1 hR1 hJ1
        have hs1 := tk_rng tp he1
        have hn1 := tE_rng tp he1
        have hlm := len_m (P := pW (o, a, k)) (T := WO fs)
        obtain ⟨K, hK⟩ : ∃ K, K = ((pW (o, a, k)).map nI ++ WO fs).length := ⟨_, rfl⟩
        have h331 : I1 82 33 = nI K := by rw [hK]; exact hW1.1
        refine h_iload_n dX12_wantCond_11 rfl ?_
        refine h_ifeq (tgt := 196) dX12_wantCond_12 rfl (fun c => absurd c (by decide)) (fun _ => ?_)
        refine h_aload_n dX12_wantCond_15 rfl ?_
        refine h_cV0 dX12_wantCond_16 k6_148 oVX12_isGood rfl rfl ?_
        refine r_good1 hf1 ?_
        refine h_ifeq (tgt := 196) dX12_wantCond_19 rfl (fun c => absurd c (by decide)) (fun _ => ?_)
        refine h_iload_n dX12_wantCond_22 rfl ?_
        refine h_ifeq (tgt := 93) dX12_wantCond_23 rfl (fun c => absurd c (by decide)) (fun _ => ?_)
        refine h_aload_n dX12_wantCond_26 rfl ?_
        refine h_ldc2 dX12_wantCond_27 k6_174 ?_
        refine h_cV1 dX12_wantCond_30 k6_153 oVX12_isWord rfl rfl ?_
        refine r_isWord (fun b5 => ?_) (fun b5 => ?_)
        · have b5 := (rk_5 he1 hb hK1).mp b5
          refine h_ifeq (tgt := 45) dX12_wantCond_33 rfl (fun c => absurd c (by decide)) (fun _ => ?_)
          refine h_aload_n dX12_wantCond_36 rfl ?_
          refine h_bipush dX12_wantCond_37 cb_7 ?_
          refine h_cV1 dX12_wantCond_39 k6_175 oVX12_hold rfl rfl ?_
          refine r_hold (wa := K) (c := nI 7) hT1 he1 hK1 h331 (by omega) (fun I2 v2 hS2 hK2 => ?_)
          rw [hK] at hS2
          refine h_goto (tgt := 11) dX12_wantCond_42 rfl ?_
          have l5 := hn1.2.2.2.2.2 b5
          exact ihA (k + 1) (tE tp nt e1) fm x4 I2 _ o a fs (by rw [← hr1, run_not b5]) hfs (rT_rf (RF_tr HO_rf (SR_rf hS2)) hT1) hn1.2.1 hK2 ((SR_f hS2 (by decide) (by decide) (by decide)).trans hf1) ((SR_f hS2 (by decide) (by decide) (by decide)).trans h321) (WR_ho hS2 hW1) (EV_fr hE1 (SR_a hS2 (by decide))) (by show fm + (((pW (o, a, k)).map nI ++ WO fs).length + 1) ≤ _; omega) (by omega) (RF_tr hR1 (RF_tr HO_rf (SR_rf hS2))) (JQ_tr hJ1 JQ_up)
        · have b5 : ¬ tC tp nt e1 = 5 := fun z => b5 ((rk_5 he1 hb hK1).mpr z)
          refine h_ifeq (tgt := 45) dX12_wantCond_33 rfl (fun _ => ?_) (fun c => absurd (by decide) c)
          refine h_aload_n dX12_wantCond_45 rfl ?_
          refine h_bipush dX12_wantCond_46 cb_40 ?_
          refine h_cV1 dX12_wantCond_48 k6_179 oVX12_isMark rfl rfl ?_
          refine r_isMark (fun m40 => ?_) (fun m40 => ?_)
          · have m40 := (rk_m40 he1 hb hK1).mp m40
            refine h_ifeq (tgt := 78) dX12_wantCond_51 rfl (fun c => absurd c (by decide)) (fun _ => ?_)
            refine h_iload_n dX12_wantCond_54 rfl ?_
            refine h_iconst dX12_wantCond_55 ci_3 ?_
            refine h_icmpne (tgt := 66) dX12_wantCond_56 rfl (fun c_56 => ?_) (fun c_56 => ?_)
            · rw [nI_eq (by omega) (by omega)] at c_56
              refine h_aload_n dX12_wantCond_66 rfl ?_
              refine h_bipush dX12_wantCond_67 cb_10 ?_
              refine h_cV1 dX12_wantCond_69 k6_175 oVX12_hold rfl rfl ?_
              refine r_hold (wa := K) (c := nI 10) hT1 he1 hK1 h331 (by omega) (fun I2 v2 hS2 hK2 => ?_)
              rw [hK] at hS2
              refine h_iinc (v := nI (fs.length + 1)) dX12_wantCond_72 rfl (nI_1 _) (Nat.le_of_ble_eq_true rfl) ?_
              refine h_goto (tgt := 11) dX12_wantCond_75 rfl ?_
              have l5 := hn1.2.2.1 (by omega)
              exact ihA 0 (tE tp nt e1) fm x4 I2 _ none none ((o, a, k) :: fs) (by rw [← hr1, run_op m40 c_56]) (by show fs.length + 1 ≤ 3; omega) (rT_rf (RF_tr HO_rf (SR_rf hS2)) hT1) hn1.2.1 hK2 ((SR_f hS2 (by decide) (by decide) (by decide)).trans hf1) ((SR_f hS2 (by decide) (by decide) (by decide)).trans h321) (WR_ho hS2 hW1) (EV_fr hE1 (SR_a hS2 (by decide))) (by show fm + (((pW (o, a, k)).map nI ++ WO fs).length + 1) ≤ _; omega) (by omega) (RF_tr hR1 (RF_tr HO_rf (SR_rf hS2))) (JQ_tr hJ1 JQ_up)
            · rw [nI_eq (by omega) (by omega)] at c_56
              refine h_aload_n dX12_wantCond_59 rfl ?_
              refine h_cV0 dX12_wantCond_60 k6_161 oVX12_faulty rfl rfl ?_
              refine r_faulty hf1 hK1.1 ?_
              refine h_goto (tgt := 11) dX12_wantCond_63 rfl ?_
              exact Fl _ _ x4 _ J1 (tS tp nt e1) fm K (by rw [← hr1, run_op3 m40 c_56]) (by omega) (RF_tr hR1 FA_rf) hJ1 rfl h321 h331 (by omega)
          · have m40 : ¬ tC tp nt e1 = 60 := fun z => m40 ((rk_m40 he1 hb hK1).mpr z)
            refine h_ifeq (tgt := 78) dX12_wantCond_51 rfl (fun _ => ?_) (fun c => absurd (by decide) c)
            refine h_aload_n dX12_wantCond_78 rfl ?_
            refine h_cV0 dX12_wantCond_79 k6_183 oVX12_wantAsk rfl rfl ?_
            refine r_wantAsk (g := g) (s := s) (S := VS ((o, a, k) :: fs)) hb hT1 he1 hK1 hf1 h321 (by omega) hE1 (fun I2 J2 f fm2 hcf hA2 hJ2 hf2 h322 hfm2 => ?_) (fun I2 J2 e3 hcf hA2 hJ2 hK2 hf2 h322 hE2 => ?_)
            · refine h_aload_n dX12_wantCond_82 rfl ?_
              refine h_bipush dX12_wantCond_83 cb_7 ?_
              refine h_cV1 dX12_wantCond_85 k6_203 oVX12_settle rfl rfl ?_
              refine r_settleF (le := 7) h322 ((WR_ra hA2 hW1).1.trans (congrArg nI hK.symm)) (by omega) (fun I3 fm3 wa3 hS3 h323 h333 hfw3 => ?_)
              refine h_iconst dX12_wantCond_88 ci_0 ?_
              refine h_istore_n dX12_wantCond_89 (Nat.le_of_ble_eq_true rfl) ?_
              refine h_goto (tgt := 11) dX12_wantCond_90 rfl ?_
              exact Fl _ _ x4 I3 J2 f fm3 wa3 (by rw [← hr1, run_cf b5 m40 hcf]) (Nat.le_trans (cf_le he1 hcf) h200) (RF_tr hR1 (RF_tr (RA_rf hA2) (SE_rf hS3))) (JQ_tr hJ1 hJ2) ((SE_f hS3 (by decide) (by decide)).trans hf2) h323 h333 (by omega)
            · refine h_aload_n dX12_wantCond_82 rfl ?_
              refine h_bipush dX12_wantCond_83 cb_7 ?_
              refine h_cV1 dX12_wantCond_85 k6_203 oVX12_settle rfl rfl ?_
              have hW2 := WR_ra hA2 hW1
              rw [sp7] at hW2
              have hl4 : ((pW (o, a, k)).map nI ++ WO fs).length = _ := congrArg List.length sp7
              refine r_settle (le := 7) (P := List.replicate k 7) (T := (p8 a ++ p9 o).map nI ++ WO fs) (S2 := bS (xr (cmpP tp nt e1) k) (VS ((o, a, 0) :: fs))) (by omega) m_7 st_89 h322 hW2 (by rw [← hl4]; omega) hE2 (fun ki aw wh _ _ _ => rs_7 ki aw wh k _) (fun I3 hS3 h323 hW3 hE3 => ?_)
              refine h_iconst dX12_wantCond_88 ci_0 ?_
              refine h_istore_n dX12_wantCond_89 (Nat.le_of_ble_eq_true rfl) ?_
              refine h_goto (tgt := 11) dX12_wantCond_90 rfl ?_
              have hck := cf_ok he1 hcf
              rw [List.length_replicate] at h323 hE3
              have hl3 := len_m (P := pW (o, a, k)) (T := WO fs)
              rw [sp7, len_m, List.length_replicate] at hl3
              exact ihB e3 (fm + 3 + k) x4 I3 J2 o a _ fs (by rw [← hr1, run_cm b5 m40 hcf]) hfs (rT_rf (RF_tr (RA_rf hA2) (SE_rf hS3)) hT1) hck.1 (RK_se hS3 hK2) ((SE_f hS3 (by decide) (by decide)).trans hf2) h323 hW3 hE3 (by omega) (by omega) (RF_tr hR1 (RF_tr (RA_rf hA2) (SE_rf hS3))) (JQ_tr hJ1 hJ2)
      · intro e1 fm x4 I1 J1 o a v fs hr1 hfs hT1 he1 hK1 hf1 h321 hW1 hE1 hl1 hN1 hR1 hJ1
        have hs1 := tk_rng tp he1
        have hn1 := tE_rng tp he1
        have hlm := len_m (P := p8 a ++ p9 o) (T := WO fs)
        have hl9 := len_m (P := p9 o) (T := WO fs)
        have hl8 : (p8 a ++ p9 o).length = (p8 a).length + (p9 o).length := List.length_append
        match fs, hr1, hfs, hW1, hE1, hl1, hlm, hl9 with
        | [], hr1, hfs, hW1, hE1, hl1, hlm, hl9 =>
          show HV l mX12_wantCond (dp + 6) 0 0 11 [some (.ref 82), some (.int (nI 0)), some (.int (nI 0)), some (.int (nI 1)), x4] [] hSH I1 J1 (hRR lt tx) Q
          refine h_iload_n dX12_wantCond_11 rfl ?_
          refine h_ifeq (tgt := 196) dX12_wantCond_12 rfl (fun c => absurd c (by decide)) (fun _ => ?_)
          refine h_aload_n dX12_wantCond_15 rfl ?_
          refine h_cV0 dX12_wantCond_16 k6_148 oVX12_isGood rfl rfl ?_
          refine r_good1 hf1 ?_
          refine h_ifeq (tgt := 196) dX12_wantCond_19 rfl (fun c => absurd c (by decide)) (fun _ => ?_)
          refine h_iload_n dX12_wantCond_22 rfl ?_
          refine h_ifeq (tgt := 93) dX12_wantCond_23 rfl (fun _ => ?_) (fun c => absurd (by decide) c)
          refine h_aload_n dX12_wantCond_93 rfl ?_
          refine h_ldc2 dX12_wantCond_94 k6_207 ?_
          refine h_cV1 dX12_wantCond_97 k6_153 oVX12_isWord rfl rfl ?_
          refine r_isWord (fun b4 => ?_) (fun b4 => ?_)
          · have b4 := (rk_4 he1 hb hK1).mp b4
            refine h_ifne (tgt := 113) dX12_wantCond_100 rfl (fun _ => ?_) (fun c => absurd c (by decide))
            refine h_aload_n dX12_wantCond_113 rfl ?_
            refine h_ldc2 dX12_wantCond_114 k6_207 ?_
            refine h_cV1 dX12_wantCond_117 k6_153 oVX12_isWord rfl rfl ?_
            refine r_isWord (fun _ => ?_) (fun z => absurd ((rk_4 he1 hb hK1).mpr b4) z)
            refine h_ifeq (tgt := 128) dX12_wantCond_120 rfl (fun c => absurd c (by decide)) (fun _ => ?_)
            refine h_bipush dX12_wantCond_123 cb_8 ?_
            refine h_goto (tgt := 130) dX12_wantCond_125 rfl ?_
            refine h_istore dX12_wantCond_130 (Nat.le_of_ble_eq_true rfl) ?_
            refine h_aload_n dX12_wantCond_132 rfl ?_
            refine h_iload dX12_wantCond_133 rfl ?_
            refine h_cV1 dX12_wantCond_135 k6_203 oVX12_settle rfl rfl ?_
            have hW2 := hW1
            rw [sp8] at hW2
            refine r_settle (le := 8) (P := p8 a) (T := (p9 o).map nI ++ WO ([])) (S2 := bS (aj a v) (oS o (VS ([])))) (by omega) m_8 st_9 h321 hW2 (by rw [len_m]; omega) hE1 (fun ki aw wh _ _ _ => rs_8 ki aw wh) (fun I2 hS2 h322 hW2 hE2 => ?_)
            obtain ⟨K, hK⟩ : ∃ K, K = ((p9 o).map nI ++ WO ([])).length := ⟨_, rfl⟩
            have h332 : I2 82 33 = nI K := by rw [hK]; exact hW2.1
            refine h_aload_n dX12_wantCond_138 rfl ?_
            refine h_iload dX12_wantCond_139 rfl ?_
            refine h_cV1 dX12_wantCond_141 k6_175 oVX12_hold rfl rfl ?_
            refine r_hold (wa := K) (c := nI 8) (rT_rf (SE_rf hS2) hT1) he1 (RK_se hS2 hK1) h332 (by omega) (fun I3 v3 hS3 hK3 => ?_)
            rw [hK] at hS3
            refine h_iconst dX12_wantCond_144 ci_1 ?_
            refine h_istore_n dX12_wantCond_145 (Nat.le_of_ble_eq_true rfl) ?_
            refine h_goto (tgt := 11) dX12_wantCond_146 rfl ?_
            have l5 := hn1.2.2.1 (by omega)
            exact ihA 0 (tE tp nt e1) (fm + (p8 a).length) _ I3 _ o (some (aj a v)) ([]) (by rw [← hr1, run_and b4]) hfs (rT_rf (RF_tr (SE_rf hS2) (RF_tr HO_rf (SR_rf hS3))) hT1) hn1.2.1 hK3 ((SR_f hS3 (by decide) (by decide) (by decide)).trans ((SE_f hS2 (by decide) (by decide)).trans hf1)) ((SR_f hS3 (by decide) (by decide) (by decide)).trans h322) (WR_ho hS3 hW2) (EV_fr hE2 (SR_a hS3 (by decide))) (by show _ + (((p9 o).map nI ++ WO ([])).length + 1) ≤ _; omega) (by omega) (RF_tr hR1 (RF_tr (SE_rf hS2) (RF_tr HO_rf (SR_rf hS3)))) (JQ_tr hJ1 JQ_up)
          · have b4 : ¬ tC tp nt e1 = 4 := fun z => b4 ((rk_4 he1 hb hK1).mpr z)
            refine h_ifne (tgt := 113) dX12_wantCond_100 rfl (fun c => absurd (by decide) c) (fun _ => ?_)
            refine h_aload_n dX12_wantCond_103 rfl ?_
            refine h_ldc2 dX12_wantCond_104 k6_208 ?_
            refine h_cV1 dX12_wantCond_107 k6_153 oVX12_isWord rfl rfl ?_
            refine r_isWord (fun b3 => ?_) (fun b3 => ?_)
            · have b3 := (rk_3 he1 hb hK1).mp b3
              refine h_ifeq (tgt := 149) dX12_wantCond_110 rfl (fun c => absurd c (by decide)) (fun _ => ?_)
              refine h_aload_n dX12_wantCond_113 rfl ?_
              refine h_ldc2 dX12_wantCond_114 k6_207 ?_
              refine h_cV1 dX12_wantCond_117 k6_153 oVX12_isWord rfl rfl ?_
              refine r_isWord (fun z => absurd ((rk_4 he1 hb hK1).mp z) b4) (fun _ => ?_)
              refine h_ifeq (tgt := 128) dX12_wantCond_120 rfl (fun _ => ?_) (fun c => absurd (by decide) c)
              refine h_bipush dX12_wantCond_128 cb_9 ?_
              refine h_istore dX12_wantCond_130 (Nat.le_of_ble_eq_true rfl) ?_
              refine h_aload_n dX12_wantCond_132 rfl ?_
              refine h_iload dX12_wantCond_133 rfl ?_
              refine h_cV1 dX12_wantCond_135 k6_203 oVX12_settle rfl rfl ?_
              refine r_settle (le := 9) (P := p8 a ++ p9 o) (T := WO ([])) (S2 := bS (oj o (aj a v)) (VS ([]))) (by omega) m_89 (st_WO _) h321 hW1 (by omega) hE1 (fun ki aw wh _ _ _ => rs_89 ki aw wh) (fun I2 hS2 h322 hW2 hE2 => ?_)
              obtain ⟨K, hK⟩ : ∃ K, K = (WO ([])).length := ⟨_, rfl⟩
              have h332 : I2 82 33 = nI K := by rw [hK]; exact hW2.1
              refine h_aload_n dX12_wantCond_138 rfl ?_
              refine h_iload dX12_wantCond_139 rfl ?_
              refine h_cV1 dX12_wantCond_141 k6_175 oVX12_hold rfl rfl ?_
              refine r_hold (wa := K) (c := nI 9) (rT_rf (SE_rf hS2) hT1) he1 (RK_se hS2 hK1) h332 (by omega) (fun I3 v3 hS3 hK3 => ?_)
              rw [hK] at hS3
              refine h_iconst dX12_wantCond_144 ci_1 ?_
              refine h_istore_n dX12_wantCond_145 (Nat.le_of_ble_eq_true rfl) ?_
              refine h_goto (tgt := 11) dX12_wantCond_146 rfl ?_
              have l5 := hn1.2.2.1 (by omega)
              exact ihA 0 (tE tp nt e1) (fm + (p8 a ++ p9 o).length) _ I3 _ (some (oj o (aj a v))) none ([]) (by rw [← hr1, run_or b3]) hfs (rT_rf (RF_tr (SE_rf hS2) (RF_tr HO_rf (SR_rf hS3))) hT1) hn1.2.1 hK3 ((SR_f hS3 (by decide) (by decide) (by decide)).trans ((SE_f hS2 (by decide) (by decide)).trans hf1)) ((SR_f hS3 (by decide) (by decide) (by decide)).trans h322) (WR_ho hS3 hW2) (EV_fr hE2 (SR_a hS3 (by decide))) (by show _ + ((WO ([])).length + 1) ≤ _; omega) (by omega) (RF_tr hR1 (RF_tr (SE_rf hS2) (RF_tr HO_rf (SR_rf hS3)))) (JQ_tr hJ1 JQ_up)
            · have b3 : ¬ tC tp nt e1 = 3 := fun z => b3 ((rk_3 he1 hb hK1).mpr z)
              refine h_ifeq (tgt := 149) dX12_wantCond_110 rfl (fun _ => ?_) (fun c => absurd (by decide) c)
              refine h_iload_n dX12_wantCond_149 rfl ?_
              refine h_ifle (tgt := 191) dX12_wantCond_150 rfl (fun _ => ?_) (fun c => absurd (by decide) c)
              refine h_iconst dX12_wantCond_191 ci_0 ?_
              refine h_istore_n dX12_wantCond_192 (Nat.le_of_ble_eq_true rfl) ?_
              refine h_goto (tgt := 11) dX12_wantCond_193 rfl ?_
              exact Ex _ _ x4 I1 J1 e1 fm (N + 1) o a v (by rw [← hr1, run_end b4 b3]) hT1 he1 hK1 hf1 h321 hW1 hE1 hl1 hN1 hR1 hJ1
        | (o2, a2, k2) :: fs2, hr1, hfs, hW1, hE1, hl1, hlm, hl9 =>
          have hfs2 : fs2.length + 1 ≤ 3 := hfs
          show HV l mX12_wantCond (dp + 6) 0 0 11 [some (.ref 82), some (.int (nI (fs2.length + 1))), some (.int (nI 0)), some (.int (nI 1)), x4] [] hSH I1 J1 (hRR lt tx) Q
          refine h_iload_n dX12_wantCond_11 rfl ?_
          refine h_ifeq (tgt := 196) dX12_wantCond_12 rfl (fun c => absurd c (by decide)) (fun _ => ?_)
          refine h_aload_n dX12_wantCond_15 rfl ?_
          refine h_cV0 dX12_wantCond_16 k6_148 oVX12_isGood rfl rfl ?_
          refine r_good1 hf1 ?_
          refine h_ifeq (tgt := 196) dX12_wantCond_19 rfl (fun c => absurd c (by decide)) (fun _ => ?_)
          refine h_iload_n dX12_wantCond_22 rfl ?_
          refine h_ifeq (tgt := 93) dX12_wantCond_23 rfl (fun _ => ?_) (fun c => absurd (by decide) c)
          refine h_aload_n dX12_wantCond_93 rfl ?_
          refine h_ldc2 dX12_wantCond_94 k6_207 ?_
          refine h_cV1 dX12_wantCond_97 k6_153 oVX12_isWord rfl rfl ?_
          refine r_isWord (fun b4 => ?_) (fun b4 => ?_)
          · have b4 := (rk_4 he1 hb hK1).mp b4
            refine h_ifne (tgt := 113) dX12_wantCond_100 rfl (fun _ => ?_) (fun c => absurd c (by decide))
            refine h_aload_n dX12_wantCond_113 rfl ?_
            refine h_ldc2 dX12_wantCond_114 k6_207 ?_
            refine h_cV1 dX12_wantCond_117 k6_153 oVX12_isWord rfl rfl ?_
            refine r_isWord (fun _ => ?_) (fun z => absurd ((rk_4 he1 hb hK1).mpr b4) z)
            refine h_ifeq (tgt := 128) dX12_wantCond_120 rfl (fun c => absurd c (by decide)) (fun _ => ?_)
            refine h_bipush dX12_wantCond_123 cb_8 ?_
            refine h_goto (tgt := 130) dX12_wantCond_125 rfl ?_
            refine h_istore dX12_wantCond_130 (Nat.le_of_ble_eq_true rfl) ?_
            refine h_aload_n dX12_wantCond_132 rfl ?_
            refine h_iload dX12_wantCond_133 rfl ?_
            refine h_cV1 dX12_wantCond_135 k6_203 oVX12_settle rfl rfl ?_
            have hW2 := hW1
            rw [sp8] at hW2
            refine r_settle (le := 8) (P := p8 a) (T := (p9 o).map nI ++ WO ((o2, a2, k2) :: fs2)) (S2 := bS (aj a v) (oS o (VS ((o2, a2, k2) :: fs2)))) (by omega) m_8 st_9 h321 hW2 (by rw [len_m]; omega) hE1 (fun ki aw wh _ _ _ => rs_8 ki aw wh) (fun I2 hS2 h322 hW2 hE2 => ?_)
            obtain ⟨K, hK⟩ : ∃ K, K = ((p9 o).map nI ++ WO ((o2, a2, k2) :: fs2)).length := ⟨_, rfl⟩
            have h332 : I2 82 33 = nI K := by rw [hK]; exact hW2.1
            refine h_aload_n dX12_wantCond_138 rfl ?_
            refine h_iload dX12_wantCond_139 rfl ?_
            refine h_cV1 dX12_wantCond_141 k6_175 oVX12_hold rfl rfl ?_
            refine r_hold (wa := K) (c := nI 8) (rT_rf (SE_rf hS2) hT1) he1 (RK_se hS2 hK1) h332 (by omega) (fun I3 v3 hS3 hK3 => ?_)
            rw [hK] at hS3
            refine h_iconst dX12_wantCond_144 ci_1 ?_
            refine h_istore_n dX12_wantCond_145 (Nat.le_of_ble_eq_true rfl) ?_
            refine h_goto (tgt := 11) dX12_wantCond_146 rfl ?_
            have l5 := hn1.2.2.1 (by omega)
            exact ihA 0 (tE tp nt e1) (fm + (p8 a).length) _ I3 _ o (some (aj a v)) ((o2, a2, k2) :: fs2) (by rw [← hr1, run_and b4]) hfs (rT_rf (RF_tr (SE_rf hS2) (RF_tr HO_rf (SR_rf hS3))) hT1) hn1.2.1 hK3 ((SR_f hS3 (by decide) (by decide) (by decide)).trans ((SE_f hS2 (by decide) (by decide)).trans hf1)) ((SR_f hS3 (by decide) (by decide) (by decide)).trans h322) (WR_ho hS3 hW2) (EV_fr hE2 (SR_a hS3 (by decide))) (by show _ + (((p9 o).map nI ++ WO ((o2, a2, k2) :: fs2)).length + 1) ≤ _; omega) (by omega) (RF_tr hR1 (RF_tr (SE_rf hS2) (RF_tr HO_rf (SR_rf hS3)))) (JQ_tr hJ1 JQ_up)
          · have b4 : ¬ tC tp nt e1 = 4 := fun z => b4 ((rk_4 he1 hb hK1).mpr z)
            refine h_ifne (tgt := 113) dX12_wantCond_100 rfl (fun c => absurd (by decide) c) (fun _ => ?_)
            refine h_aload_n dX12_wantCond_103 rfl ?_
            refine h_ldc2 dX12_wantCond_104 k6_208 ?_
            refine h_cV1 dX12_wantCond_107 k6_153 oVX12_isWord rfl rfl ?_
            refine r_isWord (fun b3 => ?_) (fun b3 => ?_)
            · have b3 := (rk_3 he1 hb hK1).mp b3
              refine h_ifeq (tgt := 149) dX12_wantCond_110 rfl (fun c => absurd c (by decide)) (fun _ => ?_)
              refine h_aload_n dX12_wantCond_113 rfl ?_
              refine h_ldc2 dX12_wantCond_114 k6_207 ?_
              refine h_cV1 dX12_wantCond_117 k6_153 oVX12_isWord rfl rfl ?_
              refine r_isWord (fun z => absurd ((rk_4 he1 hb hK1).mp z) b4) (fun _ => ?_)
              refine h_ifeq (tgt := 128) dX12_wantCond_120 rfl (fun _ => ?_) (fun c => absurd (by decide) c)
              refine h_bipush dX12_wantCond_128 cb_9 ?_
              refine h_istore dX12_wantCond_130 (Nat.le_of_ble_eq_true rfl) ?_
              refine h_aload_n dX12_wantCond_132 rfl ?_
              refine h_iload dX12_wantCond_133 rfl ?_
              refine h_cV1 dX12_wantCond_135 k6_203 oVX12_settle rfl rfl ?_
              refine r_settle (le := 9) (P := p8 a ++ p9 o) (T := WO ((o2, a2, k2) :: fs2)) (S2 := bS (oj o (aj a v)) (VS ((o2, a2, k2) :: fs2))) (by omega) m_89 (st_WO _) h321 hW1 (by omega) hE1 (fun ki aw wh _ _ _ => rs_89 ki aw wh) (fun I2 hS2 h322 hW2 hE2 => ?_)
              obtain ⟨K, hK⟩ : ∃ K, K = (WO ((o2, a2, k2) :: fs2)).length := ⟨_, rfl⟩
              have h332 : I2 82 33 = nI K := by rw [hK]; exact hW2.1
              refine h_aload_n dX12_wantCond_138 rfl ?_
              refine h_iload dX12_wantCond_139 rfl ?_
              refine h_cV1 dX12_wantCond_141 k6_175 oVX12_hold rfl rfl ?_
              refine r_hold (wa := K) (c := nI 9) (rT_rf (SE_rf hS2) hT1) he1 (RK_se hS2 hK1) h332 (by omega) (fun I3 v3 hS3 hK3 => ?_)
              rw [hK] at hS3
              refine h_iconst dX12_wantCond_144 ci_1 ?_
              refine h_istore_n dX12_wantCond_145 (Nat.le_of_ble_eq_true rfl) ?_
              refine h_goto (tgt := 11) dX12_wantCond_146 rfl ?_
              have l5 := hn1.2.2.1 (by omega)
              exact ihA 0 (tE tp nt e1) (fm + (p8 a ++ p9 o).length) _ I3 _ (some (oj o (aj a v))) none ((o2, a2, k2) :: fs2) (by rw [← hr1, run_or b3]) hfs (rT_rf (RF_tr (SE_rf hS2) (RF_tr HO_rf (SR_rf hS3))) hT1) hn1.2.1 hK3 ((SR_f hS3 (by decide) (by decide) (by decide)).trans ((SE_f hS2 (by decide) (by decide)).trans hf1)) ((SR_f hS3 (by decide) (by decide) (by decide)).trans h322) (WR_ho hS3 hW2) (EV_fr hE2 (SR_a hS3 (by decide))) (by show _ + ((WO ((o2, a2, k2) :: fs2)).length + 1) ≤ _; omega) (by omega) (RF_tr hR1 (RF_tr (SE_rf hS2) (RF_tr HO_rf (SR_rf hS3)))) (JQ_tr hJ1 JQ_up)
            · have b3 : ¬ tC tp nt e1 = 3 := fun z => b3 ((rk_3 he1 hb hK1).mpr z)
              refine h_ifeq (tgt := 149) dX12_wantCond_110 rfl (fun _ => ?_) (fun c => absurd (by decide) c)
              refine h_iload_n dX12_wantCond_149 rfl ?_
              refine h_ifle (tgt := 191) dX12_wantCond_150 rfl (fun c_150 => ?_) (fun c_150 => ?_)
              · rw [show (0 : Int32) = nI 0 from rfl, nI_leI (by omega) (by omega)] at c_150
                omega
              · rw [show (0 : Int32) = nI 0 from rfl, nI_leI (by omega) (by omega)] at c_150
                refine h_aload_n dX12_wantCond_153 rfl ?_
                refine h_bipush dX12_wantCond_154 cb_9 ?_
                refine h_cV1 dX12_wantCond_156 k6_203 oVX12_settle rfl rfl ?_
                refine r_settle (le := 9) (P := p8 a ++ p9 o) (T := WO ((o2, a2, k2) :: fs2)) (S2 := bS (oj o (aj a v)) (VS ((o2, a2, k2) :: fs2))) (by omega) m_89 (st_WO _) h321 hW1 (by omega) hE1 (fun ki aw wh _ _ _ => rs_89 ki aw wh) (fun I2 hS2 h322 hW2 hE2 => ?_)
                obtain ⟨K, hK⟩ : ∃ K, K = ((pW (o2, a2, k2)).map nI ++ WO fs2).length := ⟨_, rfl⟩
                have hKl : (WO ((o2, a2, k2) :: fs2)).length = K + 1 := by rw [hK]; rfl
                have h332 : I2 82 33 = nI (K + 1) := by rw [← hKl]; exact hW2.1
                have hW3 : rep (I2 98) ((pW (o2, a2, k2)).map nI ++ WO fs2) := hW2.2.2
                refine h_aload_n dX12_wantCond_159 rfl ?_
                refine h_dup dX12_wantCond_160 rfl ?_
                refine h_getI dX12_wantCond_161 f_X12_275_10 rfl h332 ?_
                refine h_iconst dX12_wantCond_164 ci_1 ?_
                refine h_isubN dX12_wantCond_165 (by omega) ?_
                refine h_putI dX12_wantCond_166 f_X12_275_10 p_X12_10_33 (fun h => by cases h) rfl ?_
                have hR2 : RF I1 (upI I2 82 33 (nI K)) := RF_tr (SE_rf hS2) (SE_rf W_se)
                have hK9 : RK (upI I2 82 33 (nI K)) J1 tp nt e1 := RK_se (SE_tr hS2 W_se) hK1
                refine h_iinc (v := nI fs2.length) dX12_wantCond_169 rfl (nI_dec _) (Nat.le_of_ble_eq_true rfl) ?_
                refine h_aload_n dX12_wantCond_172 rfl ?_
                refine h_aload_n dX12_wantCond_173 rfl ?_
                refine h_bipush dX12_wantCond_174 cb_41 ?_
                refine h_cV1 dX12_wantCond_176 k6_179 oVX12_isMark rfl rfl ?_
                refine r_isMark (fun m41 => ?_) (fun m41 => ?_)
                · have m41 := (rk_m41 he1 hb hK9).mp m41
                  refine h_cV1 dX12_wantCond_179 k6_157 oVX12_want rfl rfl ?_
                  refine r_want1 (rT_rf hR2 hT1) he1 (RK_se (SE_tr hS2 W_se) hK1) ((SE_f hS2 (by decide) (by decide)).trans hf1) (fun I4 v4 hS4 hK4 => ?_)
                  have hf4 : I4 82 27 = -1 := (SR_f hS4 (by decide) (by decide) (by decide)).trans ((SE_f hS2 (by decide) (by decide)).trans hf1)
                  have h324 : I4 82 32 = nI (fm + (p8 a ++ p9 o).length) := (SR_f hS4 (by decide) (by decide) (by decide)).trans h322
                  have hW4 : WR I4 ((pW (o2, a2, k2)).map nI ++ WO fs2) := ⟨by rw [← hK]; exact SR_f hS4 (by decide) (by decide) (by decide), by rw [SR_a hS4 (by decide)]; exact hW3⟩
                  rw [sp7] at hW4
                  rw [sp7, len_m, List.length_replicate] at hK
                  refine h_aload_n dX12_wantCond_182 rfl ?_
                  refine h_bipush dX12_wantCond_183 cb_7 ?_
                  refine h_cV1 dX12_wantCond_185 k6_203 oVX12_settle rfl rfl ?_
                  refine r_settle (le := 7) (P := List.replicate k2 7) (T := (p8 a2 ++ p9 o2).map nI ++ WO fs2) (S2 := bS (xr (oj o (aj a v)) k2) (VS ((o2, a2, 0) :: fs2))) (by omega) m_7 st_89 h324 hW4 (by rw [len_m, List.length_replicate]; omega) (EV_fr (I2 := I4) hE2 (SR_a hS4 (by decide))) (fun ki aw wh _ _ _ => rs_7 ki aw wh k2 _) (fun I5 hS5 h325 hW5 hE5 => ?_)
                  refine h_goto (tgt := 11) dX12_wantCond_188 rfl ?_
                  have l5 := hn1.2.2.1 (by omega)
                  rw [List.length_replicate] at h325 hE5
                  exact ihB (tE tp nt e1) _ x4 I5 _ o2 a2 _ fs2 (by rw [← hr1, run_cl m41]) (by have : fs2.length + 1 ≤ 3 := hfs; omega) (rT_rf (RF_tr (RF_tr hR2 (SR_rf hS4)) (SE_rf hS5)) hT1) hn1.2.1 (RK_se hS5 hK4) ((SE_f hS5 (by decide) (by decide)).trans hf4) h325 hW5 hE5 (by omega) (by omega) (RF_tr hR1 (RF_tr (RF_tr hR2 (SR_rf hS4)) (SE_rf hS5))) (JQ_tr hJ1 JQ_up)
                · have m41 : ¬ tC tp nt e1 = 61 := fun z => m41 ((rk_m41 he1 hb hK9).mpr z)
                  refine h_cV1 dX12_wantCond_179 k6_157 oVX12_want rfl rfl ?_
                  refine r_want0 (rT_rf hR2 hT1) he1 (RK_se (SE_tr hS2 W_se) hK1) ((SE_f hS2 (by decide) (by decide)).trans hf1) ?_
                  refine h_aload_n dX12_wantCond_182 rfl ?_
                  refine h_bipush dX12_wantCond_183 cb_7 ?_
                  refine h_cV1 dX12_wantCond_185 k6_203 oVX12_settle rfl rfl ?_
                  refine r_settleF (le := 7) (fm := fm + (p8 a ++ p9 o).length) (wa := K) h322 rfl (by omega) (fun I5 fm5 wa5 hS5 h325 h335 hfw5 => ?_)
                  refine h_goto (tgt := 11) dX12_wantCond_188 rfl ?_
                  exact Fl _ _ x4 I5 J1 (tS tp nt e1) fm5 wa5 (by rw [← hr1, run_bad b4 b3 m41]) (by omega) (RF_tr hR1 (RF_tr hR2 (RF_tr FA_rf (SE_rf hS5)))) hJ1 (SE_f hS5 (by decide) (by decide)) h325 h335 (by omega)
  show HV l mX12_wantCond (dp + 6) 0 0 0 [some (.ref 82), none, none, none, none] [] hSH I J (hRR lt tx) Q
  refine h_iconst dX12_wantCond_0 ci_0 ?_
  refine h_istore_n dX12_wantCond_1 (Nat.le_of_ble_eq_true rfl) ?_
  refine h_iconst dX12_wantCond_2 ci_1 ?_
  refine h_istore_n dX12_wantCond_3 (Nat.le_of_ble_eq_true rfl) ?_
  refine h_iconst dX12_wantCond_4 ci_1 ?_
  refine h_istore_n dX12_wantCond_5 (Nat.le_of_ble_eq_true rfl) ?_
  refine h_aload_n dX12_wantCond_6 rfl ?_
  refine h_iconst dX12_wantCond_7 ci_0 ?_
  refine h_putI dX12_wantCond_8 f_X12_275_10 p_X12_10_33 (fun h => by cases h) rfl ?_
  exact (Lo (nt + 1)).1 0 e s none _ J none none [] hr.symm (by decide) hT he hK hf h32 ⟨rfl, trivial⟩ hE hse (by omega) (SE_rf W_se) (JQ_id J)
