def RA (I I2 : hI) : Prop := ∃ g97 v82_23 v82_24 v82_25 v82_27 v82_32, I2 = (upI (upI (upI (upI (upI (upA I 97 g97) 82 23 v82_23) 82 24 v82_24) 82 25 v82_25) 82 27 v82_27) 82 32 v82_32)
theorem RA_iff {I I2 : hI} : RA I I2 ↔ (∀ x, x ≠ 97 → x ≠ 82 → I2 x = I x) ∧ ∀ j, j ≠ 23 → j ≠ 24 → j ≠ 25 → j ≠ 27 → j ≠ 32 → I2 82 j = I 82 j := by
  constructor
  · rintro ⟨g97, v82_23, v82_24, v82_25, v82_27, v82_32, rfl⟩
    refine ⟨fun x h97 h82 => ?_, fun j q23 q24 q25 q27 q32 => ?_⟩
    · simp [upA, upI, h97, h82]
    · simp [upA, upI, upd, q23, q24, q25, q27, q32]
  · rintro ⟨h, f82⟩
    refine ⟨I2 97, I2 82 23, I2 82 24, I2 82 25, I2 82 27, I2 82 32, ?_⟩
    funext x
    by_cases e97 : x = 97
    · subst e97; simp [upA, upI]
    · skip
      by_cases e82 : x = 82
      · subst e82
        funext j
        by_cases q23 : j = 23
        · subst q23; simp [upA, upI, upd]
        · skip
          by_cases q24 : j = 24
          · subst q24; simp [upA, upI, upd]
          · skip
            by_cases q25 : j = 25
            · subst q25; simp [upA, upI, upd]
            · skip
              by_cases q27 : j = 27
              · subst q27; simp [upA, upI, upd]
              · skip
                by_cases q32 : j = 32
                · subst q32; simp [upA, upI, upd]
                · skip
                  simp [upA, upI, upd, q23, q24, q25, q27, q32, f82 j q23 q24 q25 q27 q32]
      · skip
        simp [upA, upI, e97, e82, h x e97 e82]
theorem RA_id (I : hI) : RA I I := RA_iff.mpr ⟨fun x _ _ => rfl, fun j _ _ _ _ _ => rfl⟩
theorem RA_tr {I I2 I3 : hI} (k1 : RA I I2) (k2 : RA I2 I3) : RA I I3 := RA_iff.mpr ⟨fun x h97 h82 => ((RA_iff.mp k2).1 x h97 h82).trans ((RA_iff.mp k1).1 x h97 h82), fun j q23 q24 q25 q27 q32 => ((RA_iff.mp k2).2 j q23 q24 q25 q27 q32).trans ((RA_iff.mp k1).2 j q23 q24 q25 q27 q32)⟩
theorem SR_ra {I I2 : hI} (h : SR I I2) : RA I I2 := RA_iff.mpr ⟨fun x _ h82 => (SR_iff.mp h).1 x h82, fun j q23 q24 q25 _ _ => (SR_iff.mp h).2 j q23 q24 q25⟩
theorem EM_ra {I : hI} {fm : Nat} {v w : Int32} : RA I (upI (upI I 97 fm v) 82 32 w) := RA_iff.mpr ⟨fun x h97 h82 => by rw [upI_n _ _ _ h82, upI_n _ _ _ h97], fun j _ _ _ _ q32 => by rw [upI_f q32, upI_n _ _ _ (by decide)]⟩
theorem FA_ra {I : hI} {w : Int32} : RA I (upI I 82 27 w) := RA_iff.mpr ⟨fun x _ h82 => by rw [upI_n _ _ _ h82], fun j _ _ _ q27 _ => by rw [upI_f q27]⟩
theorem RA_rf {I I2 : hI} (h : RA I I2) : RF I I2 := RF_iff.mpr ⟨fun x h97 _ h82 => (RA_iff.mp h).1 x h97 h82, fun j q23 q24 q25 q27 q32 _ => (RA_iff.mp h).2 j q23 q24 q25 q27 q32⟩
theorem WR_ra {I I2 : hI} {L : List Int32} (h : RA I I2) (hW : WR I L) : WR I2 L := by
  unfold WR
  rw [(RA_iff.mp h).2 33 (by decide) (by decide) (by decide) (by decide) (by decide), (RA_iff.mp h).1 98 (by decide) (by decide)]
  exact hW
def bS (v : qP) (S : qS) : qS := fun ki aw wh => nI (bit (v ki aw wh)) :: S ki aw wh
theorem cf_ok {tp : Nat → Nat} {nt e e3 : Nat} (h : e ≤ nt) (hc : cf tp nt e = Sum.inr e3) : e3 ≤ nt ∧ e + 3 ≤ e3 := by
  have he1 := (tE_rng tp h).2.1
  have he2 := (tE_rng tp he1).2.1
  have s0 := (tk_rng tp h).1
  have s1 := (tk_rng tp he1).1
  have s2 := (tk_rng tp he2).1
  by_cases h1 : isV (tC tp nt e)
  · by_cases h2 : 80 ≤ tC tp nt (tE tp nt e) ∧ tC tp nt (tE tp nt e) ≤ 82
    · by_cases h3 : isV (tC tp nt (tE tp nt (tE tp nt e)))
      · rw [cf_4 h1 h2 h3] at hc
        cases hc
        have l1 := (tE_rng tp h).2.2.1 (by rcases h1 with q | q <;> omega)
        have l2 := (tE_rng tp he1).2.2.1 (by omega)
        have l3 := (tE_rng tp he2).2.2.1 (by rcases h3 with q | q <;> omega)
        exact ⟨(tE_rng tp he2).2.1, by omega⟩
      · rw [cf_3 h1 h2 h3] at hc; cases hc
    · rw [cf_2 h1 h2] at hc; cases hc
  · rw [cf_1 h1] at hc; cases hc
theorem r_wantAsk {l : Launch} {dp : Nat} {g : Nat → Int32} {s fm : Nat} {S : qS} {tp : Nat → Nat} {nt e : Nat} {I : hI} {J : hJ} {lt tx : Option Nat} {Q : hQ} (hb : ∀ j, j < nt → tp j < 256) (hT : rT I nt tp) (he : e ≤ nt) (hK : RK I J tp nt e) (hf : I 82 27 = -1) (h32 : I 82 32 = nI fm) (hfm : fm < 205) (hE : EV g I s fm S) (hF : ∀ I2 J2 f fm2, cf tp nt e = Sum.inl f → RA I I2 → JQ J J2 → I2 82 27 = nI f → I2 82 32 = nI fm2 → fm2 ≤ fm + 3 → Q none hSH I2 J2 (hRR lt tx)) (hO : ∀ I2 J2 e3, cf tp nt e = Sum.inr e3 → RA I I2 → JQ J J2 → RK I2 J2 tp nt e3 → I2 82 27 = -1 → I2 82 32 = nI (fm + 3) → EV g I2 s (fm + 3) (bS (cmpP tp nt e) S) → Q none hSH I2 J2 (hRR lt tx))  : HC l mX12_wantAsk (dp + 5) 0 0 [.ref 82] hSH I J (hRR lt tx) Q := by
  refine HC.of (by decide +kernel) rfl (Nat.le_of_ble_eq_true rfl) ?_
  have he1 := (tE_rng tp he).2.1
  have he2 := (tE_rng tp he1).2.1
  have h200 := hT.2.1
  show HV l mX12_wantAsk (dp + 5) 0 0 0 [some (.ref 82), none] [] hSH I J (hRR lt tx) Q
  by_cases hV : isV (tC tp nt e)
  · refine h_aload_n dX12_wantAsk_0 rfl ?_
    refine h_cV0 dX12_wantAsk_1 k6_187 oVX12_wantValue rfl rfl ?_
    refine r_wantValue1 hb hT he hK hf h32 (by omega) hV (fun I2 v2 hS2 hK2 => ?_)
    have hA2 : RA I I2 := RA_tr EM_ra (SR_ra hS2)
    have hT2 := rT_rf (RA_rf hA2) hT
    have hf2 : I2 82 27 = -1 := (SR_f hS2 (by decide) (by decide) (by decide)).trans hf
    have h322 : I2 82 32 = nI (fm + 1) := SR_f hS2 (by decide) (by decide) (by decide)
    refine h_aload_n dX12_wantAsk_4 rfl ?_
    refine h_bipush dX12_wantAsk_5 cb_60 ?_
    refine h_cV1 dX12_wantAsk_7 k6_179 oVX12_isMark rfl rfl ?_
    refine r_isMark (fun m60 => ?_) (fun m60 => ?_)
    · have m60 := (rk_m60 he1 hb hK2).mp m60
      refine h_ifeq (tgt := 18) dX12_wantAsk_10 rfl (fun c => absurd c (by decide)) (fun _ => ?_)
      refine h_bipush dX12_wantAsk_13 cb_15 ?_
      refine h_goto (tgt := 47) dX12_wantAsk_15 rfl ?_
      refine h_istore_n dX12_wantAsk_47 (Nat.le_of_ble_eq_true rfl) ?_
      refine h_aload_n dX12_wantAsk_48 rfl ?_
      refine h_iload_n dX12_wantAsk_49 rfl ?_
      refine h_ifle (tgt := 57) dX12_wantAsk_50 rfl (fun c => absurd c (by decide)) (fun _ => ?_)
      refine h_iconst dX12_wantAsk_53 ci_1 ?_
      refine h_goto (tgt := 58) dX12_wantAsk_54 rfl ?_
      refine h_cV1 dX12_wantAsk_58 k6_157 oVX12_want rfl rfl ?_
      refine r_want1 hT2 he1 hK2 hf2 (fun I3 v3 hS3 hK3 => ?_)
      have hf3 : I3 82 27 = -1 := (SR_f hS3 (by decide) (by decide) (by decide)).trans hf2
      have h323 : I3 82 32 = nI (fm + 1) := (SR_f hS3 (by decide) (by decide) (by decide)).trans h322
      refine h_aload_n dX12_wantAsk_61 rfl ?_
      refine h_cV0 dX12_wantAsk_62 k6_148 oVX12_isGood rfl rfl ?_
      refine r_good1 hf3 ?_
      refine h_ifeq (tgt := 77) dX12_wantAsk_65 rfl (fun c => absurd c (by decide)) (fun _ => ?_)
      refine h_aload_n dX12_wantAsk_68 rfl ?_
      refine h_cV0 dX12_wantAsk_69 k6_187 oVX12_wantValue rfl rfl ?_
      rcases Classical.em (isV (tC tp nt (tE tp nt (tE tp nt e)))) with hV2 | hV2
      · refine r_wantValue1 (fm := fm + 1) hb (rT_rf (SR_rf hS3) hT2) he2 hK3 hf3 h323 (by omega) hV2 (fun I4 v4 hS4 hK4 => ?_)
        have hf4 : I4 82 27 = -1 := (SR_f hS4 (by decide) (by decide) (by decide)).trans hf3
        have h324 : I4 82 32 = nI (fm + 2) := SR_f hS4 (by decide) (by decide) (by decide)
        refine h_aload_n dX12_wantAsk_72 rfl ?_
        refine h_iload_n dX12_wantAsk_73 rfl ?_
        refine h_cV1 dX12_wantAsk_74 k6_199 oVX12_emit rfl rfl ?_
        refine r_emit (fm := fm + 2) h324 (by omega) ?_
        refine h_return dX12_wantAsk_77 rfl ?_
        have hsg : 80 ≤ tC tp nt (tE tp nt e) ∧ tC tp nt (tE tp nt e) ≤ 82 := by omega
        have hA4 : RA I I4 := RA_tr hA2 (RA_tr (SR_ra hS3) (RA_tr EM_ra (SR_ra hS4)))
        have e97a : I2 97 = upd (I 97) fm (nI (vC tp nt e)) := SR_a hS2 (by decide)
        have hE2 := EV_em hE e97a (rst_v (ki := 0) (aw := 0) (wh := 0) (S := []) he hV).1 (S2 := fun ki aw wh => nI (vF tp nt e ki aw wh) :: S ki aw wh) (fun ki aw wh _ _ _ => (rst_v he hV).2)
        have e97b : I4 97 = upd (I3 97) (fm + 1) (nI (vC tp nt (tE tp nt (tE tp nt e)))) := SR_a hS4 (by decide)
        have hE4 := EV_em (EV_fr hE2 (SR_a hS3 (by decide))) e97b (rst_v (ki := 0) (aw := 0) (wh := 0) (S := []) he2 hV2).1 (S2 := fun ki aw wh => nI (vF tp nt (tE tp nt (tE tp nt e)) ki aw wh) :: nI (vF tp nt e ki aw wh) :: S ki aw wh) (fun ki aw wh _ _ _ => (rst_v he2 hV2).2)
        have hmk : mkC (tC tp nt (tE tp nt e)) = 15 := by rw [m60]; rfl
        have hE5 := EV_em (I2 := upI (upI I4 97 (fm + 2) (nI 15)) 82 32 (nI (fm + 2 + 1))) hE4 (by rw [hmk]; rfl) (rst_m (ki := 0) (aw := 0) (wh := 0) (a := 0) (b := 0) (S := []) hsg (by omega) (by omega)).1 (S2 := bS (cmpP tp nt e) S) (fun ki aw wh q1 q2 q3 => (rst_m hsg (vF_lt he hV q1 q2 q3) (vF_lt he2 hV2 q1 q2 q3)).2)
        exact hO _ _ (tE tp nt (tE tp nt (tE tp nt e))) (cf_4 hV hsg hV2) (RA_tr hA4 EM_ra) (JQ_tr JQ_up (JQ_tr JQ_up JQ_up)) (RK_se EM_se hK4) hf4 rfl hE5
      · refine r_wantValue0 (fm := fm + 1) hb (rT_rf (SR_rf hS3) hT2) he2 hK3 hf3 h323 (by omega) hV2 (fun z4 => ?_)
        refine h_aload_n dX12_wantAsk_72 rfl ?_
        refine h_iload_n dX12_wantAsk_73 rfl ?_
        refine h_cV1 dX12_wantAsk_74 k6_199 oVX12_emit rfl rfl ?_
        refine r_emit (fm := fm + 2) rfl (by omega) ?_
        refine h_return dX12_wantAsk_77 rfl ?_
        exact hF _ _ _ (fm + 3) (cf_3 hV (by omega) hV2) (RA_tr hA2 (RA_tr (SR_ra hS3) (RA_tr FA_ra (RA_tr EM_ra EM_ra)))) (JQ_tr JQ_up JQ_up) rfl rfl (by omega)
    · have m60 : ¬ tC tp nt (tE tp nt e) = 80 := fun z => m60 ((rk_m60 he1 hb hK2).mpr z)
      refine h_ifeq (tgt := 18) dX12_wantAsk_10 rfl (fun _ => ?_) (fun c => absurd (by decide) c)
      refine h_aload_n dX12_wantAsk_18 rfl ?_
      refine h_bipush dX12_wantAsk_19 cb_61 ?_
      refine h_cV1 dX12_wantAsk_21 k6_179 oVX12_isMark rfl rfl ?_
      refine r_isMark (fun m61 => ?_) (fun m61 => ?_)
      · have m61 := (rk_m61 he1 hb hK2).mp m61
        refine h_ifeq (tgt := 32) dX12_wantAsk_24 rfl (fun c => absurd c (by decide)) (fun _ => ?_)
        refine h_bipush dX12_wantAsk_27 cb_16 ?_
        refine h_goto (tgt := 47) dX12_wantAsk_29 rfl ?_
        refine h_istore_n dX12_wantAsk_47 (Nat.le_of_ble_eq_true rfl) ?_
        refine h_aload_n dX12_wantAsk_48 rfl ?_
        refine h_iload_n dX12_wantAsk_49 rfl ?_
        refine h_ifle (tgt := 57) dX12_wantAsk_50 rfl (fun c => absurd c (by decide)) (fun _ => ?_)
        refine h_iconst dX12_wantAsk_53 ci_1 ?_
        refine h_goto (tgt := 58) dX12_wantAsk_54 rfl ?_
        refine h_cV1 dX12_wantAsk_58 k6_157 oVX12_want rfl rfl ?_
        refine r_want1 hT2 he1 hK2 hf2 (fun I3 v3 hS3 hK3 => ?_)
        have hf3 : I3 82 27 = -1 := (SR_f hS3 (by decide) (by decide) (by decide)).trans hf2
        have h323 : I3 82 32 = nI (fm + 1) := (SR_f hS3 (by decide) (by decide) (by decide)).trans h322
        refine h_aload_n dX12_wantAsk_61 rfl ?_
        refine h_cV0 dX12_wantAsk_62 k6_148 oVX12_isGood rfl rfl ?_
        refine r_good1 hf3 ?_
        refine h_ifeq (tgt := 77) dX12_wantAsk_65 rfl (fun c => absurd c (by decide)) (fun _ => ?_)
        refine h_aload_n dX12_wantAsk_68 rfl ?_
        refine h_cV0 dX12_wantAsk_69 k6_187 oVX12_wantValue rfl rfl ?_
        rcases Classical.em (isV (tC tp nt (tE tp nt (tE tp nt e)))) with hV2 | hV2
        · refine r_wantValue1 (fm := fm + 1) hb (rT_rf (SR_rf hS3) hT2) he2 hK3 hf3 h323 (by omega) hV2 (fun I4 v4 hS4 hK4 => ?_)
          have hf4 : I4 82 27 = -1 := (SR_f hS4 (by decide) (by decide) (by decide)).trans hf3
          have h324 : I4 82 32 = nI (fm + 2) := SR_f hS4 (by decide) (by decide) (by decide)
          refine h_aload_n dX12_wantAsk_72 rfl ?_
          refine h_iload_n dX12_wantAsk_73 rfl ?_
          refine h_cV1 dX12_wantAsk_74 k6_199 oVX12_emit rfl rfl ?_
          refine r_emit (fm := fm + 2) h324 (by omega) ?_
          refine h_return dX12_wantAsk_77 rfl ?_
          have hsg : 80 ≤ tC tp nt (tE tp nt e) ∧ tC tp nt (tE tp nt e) ≤ 82 := by omega
          have hA4 : RA I I4 := RA_tr hA2 (RA_tr (SR_ra hS3) (RA_tr EM_ra (SR_ra hS4)))
          have e97a : I2 97 = upd (I 97) fm (nI (vC tp nt e)) := SR_a hS2 (by decide)
          have hE2 := EV_em hE e97a (rst_v (ki := 0) (aw := 0) (wh := 0) (S := []) he hV).1 (S2 := fun ki aw wh => nI (vF tp nt e ki aw wh) :: S ki aw wh) (fun ki aw wh _ _ _ => (rst_v he hV).2)
          have e97b : I4 97 = upd (I3 97) (fm + 1) (nI (vC tp nt (tE tp nt (tE tp nt e)))) := SR_a hS4 (by decide)
          have hE4 := EV_em (EV_fr hE2 (SR_a hS3 (by decide))) e97b (rst_v (ki := 0) (aw := 0) (wh := 0) (S := []) he2 hV2).1 (S2 := fun ki aw wh => nI (vF tp nt (tE tp nt (tE tp nt e)) ki aw wh) :: nI (vF tp nt e ki aw wh) :: S ki aw wh) (fun ki aw wh _ _ _ => (rst_v he2 hV2).2)
          have hmk : mkC (tC tp nt (tE tp nt e)) = 16 := by rw [m61]; rfl
          have hE5 := EV_em (I2 := upI (upI I4 97 (fm + 2) (nI 16)) 82 32 (nI (fm + 2 + 1))) hE4 (by rw [hmk]; rfl) (rst_m (ki := 0) (aw := 0) (wh := 0) (a := 0) (b := 0) (S := []) hsg (by omega) (by omega)).1 (S2 := bS (cmpP tp nt e) S) (fun ki aw wh q1 q2 q3 => (rst_m hsg (vF_lt he hV q1 q2 q3) (vF_lt he2 hV2 q1 q2 q3)).2)
          exact hO _ _ (tE tp nt (tE tp nt (tE tp nt e))) (cf_4 hV hsg hV2) (RA_tr hA4 EM_ra) (JQ_tr JQ_up (JQ_tr JQ_up JQ_up)) (RK_se EM_se hK4) hf4 rfl hE5
        · refine r_wantValue0 (fm := fm + 1) hb (rT_rf (SR_rf hS3) hT2) he2 hK3 hf3 h323 (by omega) hV2 (fun z4 => ?_)
          refine h_aload_n dX12_wantAsk_72 rfl ?_
          refine h_iload_n dX12_wantAsk_73 rfl ?_
          refine h_cV1 dX12_wantAsk_74 k6_199 oVX12_emit rfl rfl ?_
          refine r_emit (fm := fm + 2) rfl (by omega) ?_
          refine h_return dX12_wantAsk_77 rfl ?_
          exact hF _ _ _ (fm + 3) (cf_3 hV (by omega) hV2) (RA_tr hA2 (RA_tr (SR_ra hS3) (RA_tr FA_ra (RA_tr EM_ra EM_ra)))) (JQ_tr JQ_up JQ_up) rfl rfl (by omega)
      · have m61 : ¬ tC tp nt (tE tp nt e) = 81 := fun z => m61 ((rk_m61 he1 hb hK2).mpr z)
        refine h_ifeq (tgt := 32) dX12_wantAsk_24 rfl (fun _ => ?_) (fun c => absurd (by decide) c)
        refine h_aload_n dX12_wantAsk_32 rfl ?_
        refine h_bipush dX12_wantAsk_33 cb_62 ?_
        refine h_cV1 dX12_wantAsk_35 k6_179 oVX12_isMark rfl rfl ?_
        refine r_isMark (fun m62 => ?_) (fun m62 => ?_)
        · have m62 := (rk_m62 he1 hb hK2).mp m62
          refine h_ifeq (tgt := 46) dX12_wantAsk_38 rfl (fun c => absurd c (by decide)) (fun _ => ?_)
          refine h_bipush dX12_wantAsk_41 cb_17 ?_
          refine h_goto (tgt := 47) dX12_wantAsk_43 rfl ?_
          refine h_istore_n dX12_wantAsk_47 (Nat.le_of_ble_eq_true rfl) ?_
          refine h_aload_n dX12_wantAsk_48 rfl ?_
          refine h_iload_n dX12_wantAsk_49 rfl ?_
          refine h_ifle (tgt := 57) dX12_wantAsk_50 rfl (fun c => absurd c (by decide)) (fun _ => ?_)
          refine h_iconst dX12_wantAsk_53 ci_1 ?_
          refine h_goto (tgt := 58) dX12_wantAsk_54 rfl ?_
          refine h_cV1 dX12_wantAsk_58 k6_157 oVX12_want rfl rfl ?_
          refine r_want1 hT2 he1 hK2 hf2 (fun I3 v3 hS3 hK3 => ?_)
          have hf3 : I3 82 27 = -1 := (SR_f hS3 (by decide) (by decide) (by decide)).trans hf2
          have h323 : I3 82 32 = nI (fm + 1) := (SR_f hS3 (by decide) (by decide) (by decide)).trans h322
          refine h_aload_n dX12_wantAsk_61 rfl ?_
          refine h_cV0 dX12_wantAsk_62 k6_148 oVX12_isGood rfl rfl ?_
          refine r_good1 hf3 ?_
          refine h_ifeq (tgt := 77) dX12_wantAsk_65 rfl (fun c => absurd c (by decide)) (fun _ => ?_)
          refine h_aload_n dX12_wantAsk_68 rfl ?_
          refine h_cV0 dX12_wantAsk_69 k6_187 oVX12_wantValue rfl rfl ?_
          rcases Classical.em (isV (tC tp nt (tE tp nt (tE tp nt e)))) with hV2 | hV2
          · refine r_wantValue1 (fm := fm + 1) hb (rT_rf (SR_rf hS3) hT2) he2 hK3 hf3 h323 (by omega) hV2 (fun I4 v4 hS4 hK4 => ?_)
            have hf4 : I4 82 27 = -1 := (SR_f hS4 (by decide) (by decide) (by decide)).trans hf3
            have h324 : I4 82 32 = nI (fm + 2) := SR_f hS4 (by decide) (by decide) (by decide)
            refine h_aload_n dX12_wantAsk_72 rfl ?_
            refine h_iload_n dX12_wantAsk_73 rfl ?_
            refine h_cV1 dX12_wantAsk_74 k6_199 oVX12_emit rfl rfl ?_
            refine r_emit (fm := fm + 2) h324 (by omega) ?_
            refine h_return dX12_wantAsk_77 rfl ?_
            have hsg : 80 ≤ tC tp nt (tE tp nt e) ∧ tC tp nt (tE tp nt e) ≤ 82 := by omega
            have hA4 : RA I I4 := RA_tr hA2 (RA_tr (SR_ra hS3) (RA_tr EM_ra (SR_ra hS4)))
            have e97a : I2 97 = upd (I 97) fm (nI (vC tp nt e)) := SR_a hS2 (by decide)
            have hE2 := EV_em hE e97a (rst_v (ki := 0) (aw := 0) (wh := 0) (S := []) he hV).1 (S2 := fun ki aw wh => nI (vF tp nt e ki aw wh) :: S ki aw wh) (fun ki aw wh _ _ _ => (rst_v he hV).2)
            have e97b : I4 97 = upd (I3 97) (fm + 1) (nI (vC tp nt (tE tp nt (tE tp nt e)))) := SR_a hS4 (by decide)
            have hE4 := EV_em (EV_fr hE2 (SR_a hS3 (by decide))) e97b (rst_v (ki := 0) (aw := 0) (wh := 0) (S := []) he2 hV2).1 (S2 := fun ki aw wh => nI (vF tp nt (tE tp nt (tE tp nt e)) ki aw wh) :: nI (vF tp nt e ki aw wh) :: S ki aw wh) (fun ki aw wh _ _ _ => (rst_v he2 hV2).2)
            have hmk : mkC (tC tp nt (tE tp nt e)) = 17 := by rw [m62]; rfl
            have hE5 := EV_em (I2 := upI (upI I4 97 (fm + 2) (nI 17)) 82 32 (nI (fm + 2 + 1))) hE4 (by rw [hmk]; rfl) (rst_m (ki := 0) (aw := 0) (wh := 0) (a := 0) (b := 0) (S := []) hsg (by omega) (by omega)).1 (S2 := bS (cmpP tp nt e) S) (fun ki aw wh q1 q2 q3 => (rst_m hsg (vF_lt he hV q1 q2 q3) (vF_lt he2 hV2 q1 q2 q3)).2)
            exact hO _ _ (tE tp nt (tE tp nt (tE tp nt e))) (cf_4 hV hsg hV2) (RA_tr hA4 EM_ra) (JQ_tr JQ_up (JQ_tr JQ_up JQ_up)) (RK_se EM_se hK4) hf4 rfl hE5
          · refine r_wantValue0 (fm := fm + 1) hb (rT_rf (SR_rf hS3) hT2) he2 hK3 hf3 h323 (by omega) hV2 (fun z4 => ?_)
            refine h_aload_n dX12_wantAsk_72 rfl ?_
            refine h_iload_n dX12_wantAsk_73 rfl ?_
            refine h_cV1 dX12_wantAsk_74 k6_199 oVX12_emit rfl rfl ?_
            refine r_emit (fm := fm + 2) rfl (by omega) ?_
            refine h_return dX12_wantAsk_77 rfl ?_
            exact hF _ _ _ (fm + 3) (cf_3 hV (by omega) hV2) (RA_tr hA2 (RA_tr (SR_ra hS3) (RA_tr FA_ra (RA_tr EM_ra EM_ra)))) (JQ_tr JQ_up JQ_up) rfl rfl (by omega)
        · have m62 : ¬ tC tp nt (tE tp nt e) = 82 := fun z => m62 ((rk_m62 he1 hb hK2).mpr z)
          refine h_ifeq (tgt := 46) dX12_wantAsk_38 rfl (fun _ => ?_) (fun c => absurd (by decide) c)
          refine h_iconst dX12_wantAsk_46 ci_0 ?_
          refine h_istore_n dX12_wantAsk_47 (Nat.le_of_ble_eq_true rfl) ?_
          refine h_aload_n dX12_wantAsk_48 rfl ?_
          refine h_iload_n dX12_wantAsk_49 rfl ?_
          refine h_ifle (tgt := 57) dX12_wantAsk_50 rfl (fun _ => ?_) (fun c => absurd (by decide) c)
          refine h_iconst dX12_wantAsk_57 ci_0 ?_
          refine h_cV1 dX12_wantAsk_58 k6_157 oVX12_want rfl rfl ?_
          refine r_want0 hT2 he1 hK2 hf2 ?_
          refine h_aload_n dX12_wantAsk_61 rfl ?_
          refine h_cV0 dX12_wantAsk_62 k6_148 oVX12_isGood rfl rfl ?_
          refine r_good0 (f := tS tp nt (tE tp nt e)) rfl (by have := (tk_rng tp he1).2.1; omega) ?_
          refine h_ifeq (tgt := 77) dX12_wantAsk_65 rfl (fun _ => ?_) (fun c => absurd (by decide) c)
          refine h_return dX12_wantAsk_77 rfl ?_
          exact hF _ _ _ (fm + 1) (cf_2 hV (fun z => by omega)) (RA_tr hA2 FA_ra) JQ_up rfl h322 (by omega)
  · refine h_aload_n dX12_wantAsk_0 rfl ?_
    refine h_cV0 dX12_wantAsk_1 k6_187 oVX12_wantValue rfl rfl ?_
    refine r_wantValue0 hb hT he hK hf h32 (by omega) hV (fun z4 => ?_)
    refine h_aload_n dX12_wantAsk_4 rfl ?_
    refine h_bipush dX12_wantAsk_5 cb_60 ?_
    refine h_cV1 dX12_wantAsk_7 k6_179 oVX12_isMark rfl rfl ?_
    refine r_isMark (fun _ => ?_) (fun _ => ?_)
    · refine h_ifeq (tgt := 18) dX12_wantAsk_10 rfl (fun c => absurd c (by decide)) (fun _ => ?_)
      refine h_bipush dX12_wantAsk_13 cb_15 ?_
      refine h_goto (tgt := 47) dX12_wantAsk_15 rfl ?_
      refine h_istore_n dX12_wantAsk_47 (Nat.le_of_ble_eq_true rfl) ?_
      refine h_aload_n dX12_wantAsk_48 rfl ?_
      refine h_iload_n dX12_wantAsk_49 rfl ?_
      refine h_ifle (tgt := 57) dX12_wantAsk_50 rfl (fun c => absurd c (by decide)) (fun _ => ?_)
      refine h_iconst dX12_wantAsk_53 ci_1 ?_
      refine h_goto (tgt := 58) dX12_wantAsk_54 rfl ?_
      refine h_cV1 dX12_wantAsk_58 k6_157 oVX12_want rfl rfl ?_
      refine r_wantF (f := tS tp nt e) rfl (by have := (tk_rng tp he).2.1; omega) ?_
      refine h_aload_n dX12_wantAsk_61 rfl ?_
      refine h_cV0 dX12_wantAsk_62 k6_148 oVX12_isGood rfl rfl ?_
      refine r_good0 (f := tS tp nt e) rfl (by have := (tk_rng tp he).2.1; omega) ?_
      refine h_ifeq (tgt := 77) dX12_wantAsk_65 rfl (fun _ => ?_) (fun c => absurd (by decide) c)
      refine h_return dX12_wantAsk_77 rfl ?_
      exact hF _ _ _ (fm + 1) (cf_1 hV) (RA_tr FA_ra EM_ra) (JQ_id J) rfl rfl (by omega)
    · refine h_ifeq (tgt := 18) dX12_wantAsk_10 rfl (fun _ => ?_) (fun c => absurd (by decide) c)
      refine h_aload_n dX12_wantAsk_18 rfl ?_
      refine h_bipush dX12_wantAsk_19 cb_61 ?_
      refine h_cV1 dX12_wantAsk_21 k6_179 oVX12_isMark rfl rfl ?_
      refine r_isMark (fun _ => ?_) (fun _ => ?_)
      · refine h_ifeq (tgt := 32) dX12_wantAsk_24 rfl (fun c => absurd c (by decide)) (fun _ => ?_)
        refine h_bipush dX12_wantAsk_27 cb_16 ?_
        refine h_goto (tgt := 47) dX12_wantAsk_29 rfl ?_
        refine h_istore_n dX12_wantAsk_47 (Nat.le_of_ble_eq_true rfl) ?_
        refine h_aload_n dX12_wantAsk_48 rfl ?_
        refine h_iload_n dX12_wantAsk_49 rfl ?_
        refine h_ifle (tgt := 57) dX12_wantAsk_50 rfl (fun c => absurd c (by decide)) (fun _ => ?_)
        refine h_iconst dX12_wantAsk_53 ci_1 ?_
        refine h_goto (tgt := 58) dX12_wantAsk_54 rfl ?_
        refine h_cV1 dX12_wantAsk_58 k6_157 oVX12_want rfl rfl ?_
        refine r_wantF (f := tS tp nt e) rfl (by have := (tk_rng tp he).2.1; omega) ?_
        refine h_aload_n dX12_wantAsk_61 rfl ?_
        refine h_cV0 dX12_wantAsk_62 k6_148 oVX12_isGood rfl rfl ?_
        refine r_good0 (f := tS tp nt e) rfl (by have := (tk_rng tp he).2.1; omega) ?_
        refine h_ifeq (tgt := 77) dX12_wantAsk_65 rfl (fun _ => ?_) (fun c => absurd (by decide) c)
        refine h_return dX12_wantAsk_77 rfl ?_
        exact hF _ _ _ (fm + 1) (cf_1 hV) (RA_tr FA_ra EM_ra) (JQ_id J) rfl rfl (by omega)
      · refine h_ifeq (tgt := 32) dX12_wantAsk_24 rfl (fun _ => ?_) (fun c => absurd (by decide) c)
        refine h_aload_n dX12_wantAsk_32 rfl ?_
        refine h_bipush dX12_wantAsk_33 cb_62 ?_
        refine h_cV1 dX12_wantAsk_35 k6_179 oVX12_isMark rfl rfl ?_
        refine r_isMark (fun _ => ?_) (fun _ => ?_)
        · refine h_ifeq (tgt := 46) dX12_wantAsk_38 rfl (fun c => absurd c (by decide)) (fun _ => ?_)
          refine h_bipush dX12_wantAsk_41 cb_17 ?_
          refine h_goto (tgt := 47) dX12_wantAsk_43 rfl ?_
          refine h_istore_n dX12_wantAsk_47 (Nat.le_of_ble_eq_true rfl) ?_
          refine h_aload_n dX12_wantAsk_48 rfl ?_
          refine h_iload_n dX12_wantAsk_49 rfl ?_
          refine h_ifle (tgt := 57) dX12_wantAsk_50 rfl (fun c => absurd c (by decide)) (fun _ => ?_)
          refine h_iconst dX12_wantAsk_53 ci_1 ?_
          refine h_goto (tgt := 58) dX12_wantAsk_54 rfl ?_
          refine h_cV1 dX12_wantAsk_58 k6_157 oVX12_want rfl rfl ?_
          refine r_wantF (f := tS tp nt e) rfl (by have := (tk_rng tp he).2.1; omega) ?_
          refine h_aload_n dX12_wantAsk_61 rfl ?_
          refine h_cV0 dX12_wantAsk_62 k6_148 oVX12_isGood rfl rfl ?_
          refine r_good0 (f := tS tp nt e) rfl (by have := (tk_rng tp he).2.1; omega) ?_
          refine h_ifeq (tgt := 77) dX12_wantAsk_65 rfl (fun _ => ?_) (fun c => absurd (by decide) c)
          refine h_return dX12_wantAsk_77 rfl ?_
          exact hF _ _ _ (fm + 1) (cf_1 hV) (RA_tr FA_ra EM_ra) (JQ_id J) rfl rfl (by omega)
        · refine h_ifeq (tgt := 46) dX12_wantAsk_38 rfl (fun _ => ?_) (fun c => absurd (by decide) c)
          refine h_iconst dX12_wantAsk_46 ci_0 ?_
          refine h_istore_n dX12_wantAsk_47 (Nat.le_of_ble_eq_true rfl) ?_
          refine h_aload_n dX12_wantAsk_48 rfl ?_
          refine h_iload_n dX12_wantAsk_49 rfl ?_
          refine h_ifle (tgt := 57) dX12_wantAsk_50 rfl (fun _ => ?_) (fun c => absurd (by decide) c)
          refine h_iconst dX12_wantAsk_57 ci_0 ?_
          refine h_cV1 dX12_wantAsk_58 k6_157 oVX12_want rfl rfl ?_
          refine r_wantF (f := tS tp nt e) rfl (by have := (tk_rng tp he).2.1; omega) ?_
          refine h_aload_n dX12_wantAsk_61 rfl ?_
          refine h_cV0 dX12_wantAsk_62 k6_148 oVX12_isGood rfl rfl ?_
          refine r_good0 (f := tS tp nt e) rfl (by have := (tk_rng tp he).2.1; omega) ?_
          refine h_ifeq (tgt := 77) dX12_wantAsk_65 rfl (fun _ => ?_) (fun c => absurd (by decide) c)
          refine h_return dX12_wantAsk_77 rfl ?_
          exact hF _ _ _ (fm + 1) (cf_1 hV) (RA_tr FA_ra EM_ra) (JQ_id J) rfl rfl (by omega)
def p8 (a : Option qP) : List Nat := match a with
  | none => []
  | some _ => [8]
def p9 (a : Option qP) : List Nat := match a with
  | none => []
  | some _ => [9]
def pW (f : qF) : List Nat := List.replicate f.2.2 7 ++ (p8 f.2.1 ++ p9 f.1)
def WO : List qF → List Int32
  | [] => []
  | f :: fs => nI 10 :: ((pW f).map nI ++ WO fs)
def oS (a : Option qP) (S : qS) : qS := match a with
  | none => S
  | some p => bS p S
def VS : List qF → qS
  | [] => fun _ _ _ => []
  | f :: fs => oS f.2.1 (oS f.1 (VS fs))
theorem rsts_app {ki aw wh : Nat} {P2 : List Nat} : ∀ {P : List Nat} {s s2 : List Int32}, rsts ki aw wh P s = some s2 → rsts ki aw wh (P ++ P2) s = rsts ki aw wh P2 s2
  | [], s, s2, h => by cases h; rfl
  | c :: P, s, s2, h => by
    obtain ⟨s3, e1, e2⟩ := rsts_c h
    show (match rst ki aw wh c s with | some s2 => rsts ki aw wh (P ++ P2) s2 | none => none) = _
    rw [e1]
    exact rsts_app e2
theorem bt_and (x y : Bool) : nI (bit x) &&& nI (bit y) = nI (bit (x && y)) := by cases x <;> cases y <;> decide
theorem bt_or (x y : Bool) : nI (bit x) ||| nI (bit y) = nI (bit (x || y)) := by cases x <;> cases y <;> decide
theorem bt_not (x : Bool) : nI 1 - nI (bit x) = nI (bit (!x)) := by cases x <;> decide
theorem rs_8 {a : Option qP} {v : qP} {S : qS} (ki aw wh : Nat) : rsts ki aw wh (p8 a) (bS v (oS a S) ki aw wh) = some (bS (aj a v) S ki aw wh) := by
  cases a with
  | none => rfl
  | some p =>
    show some ((nI (bit (p ki aw wh)) &&& nI (bit (v ki aw wh))) :: S ki aw wh) = _
    rw [bt_and]; rfl
theorem rs_9 {a : Option qP} {v : qP} {S : qS} (ki aw wh : Nat) : rsts ki aw wh (p9 a) (bS v (oS a S) ki aw wh) = some (bS (oj a v) S ki aw wh) := by
  cases a with
  | none => rfl
  | some p =>
    show some ((nI (bit (p ki aw wh)) ||| nI (bit (v ki aw wh))) :: S ki aw wh) = _
    rw [bt_or]; rfl
theorem rs_89 {o a : Option qP} {v : qP} {S : qS} (ki aw wh : Nat) : rsts ki aw wh (p8 a ++ p9 o) (bS v (oS a (oS o S)) ki aw wh) = some (bS (oj o (aj a v)) S ki aw wh) := by
  rw [rsts_app (rs_8 ki aw wh)]
  exact rs_9 ki aw wh
theorem xr_s {v : qP} {k : Nat} : xr (fun x y z => !(v x y z)) k = xr v (k + 1) := by
  funext x y z
  unfold xr
  by_cases h : k % 2 = 1
  · rw [decide_eq_true h, decide_eq_false (by omega)]
    show ((!(v x y z)) ^^ true) = (v x y z ^^ false)
    cases v x y z <;> rfl
  · rw [decide_eq_false h, decide_eq_true (by omega)]
    show ((!(v x y z)) ^^ false) = (v x y z ^^ true)
    cases v x y z <;> rfl
theorem rs_7 {S : qS} (ki aw wh : Nat) : ∀ (k : Nat) (v : qP), rsts ki aw wh (List.replicate k 7) (bS v S ki aw wh) = some (bS (xr v k) S ki aw wh)
  | 0, v => by rw [xr_0 (by omega)]; rfl
  | k + 1, v => by
    rw [← xr_s]
    refine Eq.trans ?_ (rs_7 ki aw wh k (fun x y z => !(v x y z)))
    show rsts ki aw wh (List.replicate k 7) ((nI 1 - nI (bit (v ki aw wh))) :: S ki aw wh) = _
    rw [bt_not]
    rfl
theorem st_WO {le : Nat} (fs : List qF) : stp le (WO fs) := by
  cases fs with
  | nil => exact .inl rfl
  | cons f fs => exact .inr (.inl ⟨_, rfl⟩)
theorem st_9 {o : Option qP} {fs : List qF} : stp 8 ((p9 o).map nI ++ WO fs) := by
  cases o with
  | none => exact st_WO fs
  | some p => exact .inr (.inr ⟨9, _, rfl, by omega, by omega⟩)
theorem st_89 {o a : Option qP} {fs : List qF} : stp 7 ((p8 a ++ p9 o).map nI ++ WO fs) := by
  cases a with
  | none =>
    cases o with
    | none => exact st_WO fs
    | some p => exact .inr (.inr ⟨9, _, rfl, by omega, by omega⟩)
  | some p => exact .inr (.inr ⟨8, _, rfl, by omega, by omega⟩)
theorem m_8 {a : Option qP} : ∀ x, x ∈ p8 a → 7 ≤ x ∧ x ≤ 8 := by
  intro x hx
  cases a with
  | none => cases hx
  | some p => rw [List.mem_singleton.mp hx]; decide
theorem m_89 {o a : Option qP} : ∀ x, x ∈ p8 a ++ p9 o → 7 ≤ x ∧ x ≤ 9 := by
  intro x hx
  rcases List.mem_append.mp hx with h | h
  · have := m_8 x h; omega
  · cases o with
    | none => cases h
    | some p => rw [List.mem_singleton.mp h]; decide
theorem m_7 {k : Nat} : ∀ x, x ∈ List.replicate k 7 → 7 ≤ x ∧ x ≤ 7 := by
  intro x hx
  rw [List.eq_of_mem_replicate hx]
  decide
theorem WR_ho {I I2 : hI} {L : List Int32} {c : Int32} (hS : SR (upI (upI I 98 L.length c) 82 33 (nI (L.length + 1))) I2) (hW : WR I L) : WR I2 (c :: L) := by
  refine ⟨SR_f hS (by decide) (by decide) (by decide), ?_⟩
  have e : I2 98 = upd (I 98) L.length c := SR_a hS (by decide)
  refine ⟨?_, ?_⟩
  · show I2 98 L.length = c
    rw [e, upd_s]
  · rw [e]
    exact rep_up hW.2 (Nat.le_refl _)
theorem WR_se {I I2 : hI} {L : List Int32} (h98 : I2 98 = I 98) (h33 : I2 82 33 = I 82 33) (hW : WR I L) : WR I2 L := by
  unfold WR
  rw [h98, h33]
  exact hW
theorem sp7 {o a : Option qP} {k : Nat} {fs : List qF} : (pW (o, a, k)).map nI ++ WO fs = (List.replicate k 7).map nI ++ ((p8 a ++ p9 o).map nI ++ WO fs) := by
  unfold pW
  rw [List.map_append, List.append_assoc]
theorem sp8 {o a : Option qP} {fs : List qF} : (p8 a ++ p9 o).map nI ++ WO fs = (p8 a).map nI ++ ((p9 o).map nI ++ WO fs) := by
  rw [List.map_append, List.append_assoc]
theorem len_m {P : List Nat} {T : List Int32} : (P.map nI ++ T).length = P.length + T.length := by
  rw [List.length_append, List.length_map]
