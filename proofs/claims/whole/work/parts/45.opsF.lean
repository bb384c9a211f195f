def spN (ns nl np ml nk nw : Nat) (pl fa fb sl pp pm ki fr tg wh bw : Nat → Nat) (rs sn : Nat → Int32) (fl : Nat → Bool) (qw : Nat → Nat → Nat → Nat → Bool) (p : Nat) : Option (Int32 × Int32) := spG (inS nl fa fb sl fr tg fl p (-9)) (loK nl np ml nw pl fa fb sl pp pm ki fr tg wh bw rs sn qw) (hiK nl np ml nw pl fa fb sl pp pm ki fr tg wh bw rs sn qw) nk
def sdV (q : Int32 × Int32) : Int32 := if (q.1 + q.2) / nI 2 - (q.1 + q.2) / nI 2 / nI 100 * nI 100 = 0 then (q.1 + q.2) / nI 2 + nI 2 else (q.1 + q.2) / nI 2
noncomputable def spF (ns nl np ml nk nw : Nat) (pl fa fb sl pp pm ki fr tg wh bw : Nat → Nat) (rs sn : Nat → Int32) (fl : Nat → Bool) (qw : Nat → Nat → Nat → Nat → Bool) (x w : Int32) : Int32 := cif (isIx x np ∧ nI 0 ≤ w ∧ w ≤ nI 1) (spE (spN ns nl np ml nk nw pl fa fb sl pp pm ki fr tg wh bw rs sn fl qw x.toNatClampNeg) (fun q => cif (w = nI 0) q.1 q.2)) (-10000001)
noncomputable def sdF (ns nl np ml nk nw : Nat) (pl fa fb sl pp pm ki fr tg wh bw : Nat → Nat) (rs sn : Nat → Int32) (fl : Nat → Bool) (qw : Nat → Nat → Nat → Nat → Bool) (x : Int32) : Int32 := cif (isIx x np) (spE (spN ns nl np ml nk nw pl fa fb sl pp pm ki fr tg wh bw rs sn fl qw x.toNatClampNeg) sdV) (-10000001)
def blP (o : Option (Int32 × Int32)) (w : Int32) : Prop := ∃ q, o = some q ∧ ¬ q.2 < q.1 ∧ (q.1 ≤ w ∧ w ≤ q.2) ∧ ¬ w - w / nI 100 * nI 100 = 0
noncomputable def blF (ns nl np ml nk nw : Nat) (pl fa fb sl pp pm ki fr tg wh bw : Nat → Nat) (rs sn : Nat → Int32) (fl : Nat → Bool) (qw : Nat → Nat → Nat → Nat → Bool) (x w : Int32) : Int32 := cif (isIx x np) (cif (blP (spN ns nl np ml nk nw pl fa fb sl pp pm ki fr tg wh bw rs sn fl qw x.toNatClampNeg) w) (nI 1) (nI 0)) (-1)
theorem spF_0 {ns nl np ml nk nw : Nat} {pl fa fb sl pp pm ki fr tg wh bw : Nat → Nat} {rs sn : Nat → Int32} {fl : Nat → Bool} {qw : Nat → Nat → Nat → Nat → Bool} {p : Nat} (hp : p < np) (hb : np ≤ 8) : spF ns nl np ml nk nw pl fa fb sl pp pm ki fr tg wh bw rs sn fl qw (nI p) (nI 0) = spE (spG (inS nl fa fb sl fr tg fl p (-9)) (loK nl np ml nw pl fa fb sl pp pm ki fr tg wh bw rs sn qw) (hiK nl np ml nw pl fa fb sl pp pm ki fr tg wh bw rs sn qw) nk) (fun q => q.1) := by
  unfold spF
  rw [cif_t ⟨⟨p, hp, rfl⟩, by decide, by decide⟩, nI_clamp (show p < 2 ^ 31 by omega)]
  unfold spN
  congr 1
  funext q
  exact cif_t rfl
theorem spF_1 {ns nl np ml nk nw : Nat} {pl fa fb sl pp pm ki fr tg wh bw : Nat → Nat} {rs sn : Nat → Int32} {fl : Nat → Bool} {qw : Nat → Nat → Nat → Nat → Bool} {p : Nat} (hp : p < np) (hb : np ≤ 8) : spF ns nl np ml nk nw pl fa fb sl pp pm ki fr tg wh bw rs sn fl qw (nI p) (nI 1) = spE (spG (inS nl fa fb sl fr tg fl p (-9)) (loK nl np ml nw pl fa fb sl pp pm ki fr tg wh bw rs sn qw) (hiK nl np ml nw pl fa fb sl pp pm ki fr tg wh bw rs sn qw) nk) (fun q => q.2) := by
  unfold spF
  rw [cif_t ⟨⟨p, hp, rfl⟩, by decide, by decide⟩, nI_clamp (show p < 2 ^ 31 by omega)]
  unfold spN
  congr 1
  funext q
  exact cif_f (by decide)
theorem sdF_p {ns nl np ml nk nw : Nat} {pl fa fb sl pp pm ki fr tg wh bw : Nat → Nat} {rs sn : Nat → Int32} {fl : Nat → Bool} {qw : Nat → Nat → Nat → Nat → Bool} {p : Nat} (hp : p < np) (hb : np ≤ 8) : sdF ns nl np ml nk nw pl fa fb sl pp pm ki fr tg wh bw rs sn fl qw (nI p) = spE (spG (inS nl fa fb sl fr tg fl p (-9)) (loK nl np ml nw pl fa fb sl pp pm ki fr tg wh bw rs sn qw) (hiK nl np ml nw pl fa fb sl pp pm ki fr tg wh bw rs sn qw) nk) sdV := by
  unfold sdF
  rw [cif_t ⟨p, hp, rfl⟩, nI_clamp (show p < 2 ^ 31 by omega)]
  rfl
theorem blF_p {ns nl np ml nk nw : Nat} {pl fa fb sl pp pm ki fr tg wh bw : Nat → Nat} {rs sn : Nat → Int32} {fl : Nat → Bool} {qw : Nat → Nat → Nat → Nat → Bool} {p : Nat} {w : Int32} (hp : p < np) (hb : np ≤ 8) : blF ns nl np ml nk nw pl fa fb sl pp pm ki fr tg wh bw rs sn fl qw (nI p) w = cif (blP (spG (inS nl fa fb sl fr tg fl p (-9)) (loK nl np ml nw pl fa fb sl pp pm ki fr tg wh bw rs sn qw) (hiK nl np ml nw pl fa fb sl pp pm ki fr tg wh bw rs sn qw) nk) w) (nI 1) (nI 0) := by
  unfold blF
  rw [cif_t ⟨p, hp, rfl⟩, nI_clamp (show p < 2 ^ 31 by omega)]
  rfl
theorem c_span {l : Launch} {dp : Nat} {ns nl np ml nk nw : Nat} {pl fa fb sl pp pm ki fr tg wh bw : Nat → Nat} {rs sn : Nat → Int32} {fl : Nat → Bool} {qw : Nat → Nat → Nat → Nat → Bool} {I : hI} {J : hJ} {lt tx : Option Nat} {x w : Int32} {Q : hQ} (hG : cG I ns nl np ml nk nw pl fa fb sl pp pm ki fr tg wh bw rs sn fl qw) (hQ : ∀ I', CO I I' → Q (some (.int (spF ns nl np ml nk nw pl fa fb sl pp pm ki fr tg wh bw rs sn fl qw x w))) hSH I' J (hRR lt tx)) : HC l mX11_span (dp + 6) 0 0 [.ref 0, .int x, .int w] hSH I J (hRR lt tx) Q := by
  refine HC.of (by decide +kernel) rfl (Nat.le_of_ble_eq_true rfl) ?_
  obtain ⟨⟨hN, hdo, hla, hlv⟩, hw, ⟨hnp, hml, hnk, hpt, hsi, hbt⟩, ⟨hn8, hm2, hn24, hpW, hsW⟩, hL⟩ := id hG
  obtain ⟨hns, hnl, hpl, hlg⟩ := id hN
  obtain ⟨hn6, hl12, hW, hp99, hr99⟩ := id hw
  by_cases e_0 : w = nI 0
  · subst e_0
    show HV l mX11_span (dp + 6) 0 0 0 [some (.ref 0), some (.int x), some (.int (nI 0)), none] [] hSH I J (hRR lt tx) Q
    refine h_aload_n dX11_span_0 rfl ?_
    refine h_iload_n dX11_span_1 rfl ?_
    refine h_cV1 dX11_span_2 k3_11 oVX11_isPoint rfl rfl ?_
    refine c_isPoint (n := np) hnp (by omega) (fun b1 => ?_) (fun b1 => ?_)
    · refine h_ifeq (tgt := 17) dX11_span_5 rfl (fun c => absurd c (by decide)) (fun _ => ?_)
      refine h_iload_n dX11_span_8 rfl ?_
      refine h_iconst dX11_span_9 ci_0 ?_
      refine h_iconst dX11_span_10 ci_1 ?_
      refine h_cS3 dX11_span_11 k2_154 oSX11_within rfl ?_
      refine c_X11_within (fun b2 => ?_) (fun b2 => ?_)
      · obtain ⟨p, hp, rfl⟩ := b1
        refine h_ifne (tgt := 20) dX11_span_14 rfl (fun _ => ?_) (fun c => absurd c (by decide))
        refine h_aload_n dX11_span_20 rfl ?_
        refine h_getR dX11_span_21 f_X11_10_9 rfl rfl ?_
        refine h_iload_n dX11_span_24 rfl ?_
        refine h_bipush dX11_span_25 cb_m9 ?_
        refine h_cV2 dX11_span_27 k3_108 oVX10_measure rfl rfl ?_
        refine c_measure (p := p) (e := -9) hG hp (fun g1 g2 g3 y1 y2 y3 => ?_)
        refine h_istore_n dX11_span_30 (Nat.le_of_ble_eq_true rfl) ?_
        refine h_iload_n dX11_span_31 rfl ?_
        refine h_ifeq (tgt := 40) dX11_span_32 rfl (fun c_32 => ?_) (fun c_32 => ?_)
        · obtain ⟨q, hsn, hqq⟩ := spE_ok c_32
          rw [hsn] at y1
          refine h_iload_n dX11_span_40 rfl ?_
          refine h_ifne (tgt := 56) dX11_span_41 rfl (fun c => absurd (by decide) c) (fun _ => ?_)
          refine h_aload_n dX11_span_44 rfl ?_
          refine h_getR dX11_span_45 f_X11_10_9 rfl rfl ?_
          refine h_getR dX11_span_48 f_X11_242_8 rfl rfl ?_
          refine h_iload_n dX11_span_51 rfl ?_
          refine h_ialdN (j := p) dX11_span_52 rfl rfl (by omega) rfl (show _ = q.1 from y1.1) ?_
          refine h_goto (tgt := 65) dX11_span_53 rfl ?_
          refine h_ireturn dX11_span_65 rfl ?_
          have hQ := hQ _ (CO_3 I g1 g2 g3)
          rw [spF_0 hp hn8, hsn, spE_s hqq] at hQ
          exact hQ
        · refine h_ldc dX11_span_35 k3_126 ?_
          refine h_iload_n dX11_span_37 rfl ?_
          refine h_iadd dX11_span_38 ?_
          refine h_ireturn dX11_span_39 rfl ?_
          have hQ := hQ _ (CO_3 I g1 g2 g3)
          rw [spF_0 hp hn8, ← spE_bad c_32] at hQ
          exact hQ
      · exact absurd (by decide) b2
    · refine h_ifeq (tgt := 17) dX11_span_5 rfl (fun _ => ?_) (fun c => absurd (by decide) c)
      refine h_ldc dX11_span_17 k2_206 ?_
      refine h_ireturn dX11_span_19 rfl ?_
      have hQ := hQ _ (CO_id I)
      have hQ : Q (some (.int (cif _ _ _))) hSH I J (hRR lt tx) := hQ
      rw [cif_f (fun z => b1 z.1)] at hQ
      exact hQ
  by_cases e_1 : w = nI 1
  · subst e_1
    show HV l mX11_span (dp + 6) 0 0 0 [some (.ref 0), some (.int x), some (.int (nI 1)), none] [] hSH I J (hRR lt tx) Q
    refine h_aload_n dX11_span_0 rfl ?_
    refine h_iload_n dX11_span_1 rfl ?_
    refine h_cV1 dX11_span_2 k3_11 oVX11_isPoint rfl rfl ?_
    refine c_isPoint (n := np) hnp (by omega) (fun b1 => ?_) (fun b1 => ?_)
    · refine h_ifeq (tgt := 17) dX11_span_5 rfl (fun c => absurd c (by decide)) (fun _ => ?_)
      refine h_iload_n dX11_span_8 rfl ?_
      refine h_iconst dX11_span_9 ci_0 ?_
      refine h_iconst dX11_span_10 ci_1 ?_
      refine h_cS3 dX11_span_11 k2_154 oSX11_within rfl ?_
      refine c_X11_within (fun b2 => ?_) (fun b2 => ?_)
      · obtain ⟨p, hp, rfl⟩ := b1
        refine h_ifne (tgt := 20) dX11_span_14 rfl (fun _ => ?_) (fun c => absurd c (by decide))
        refine h_aload_n dX11_span_20 rfl ?_
        refine h_getR dX11_span_21 f_X11_10_9 rfl rfl ?_
        refine h_iload_n dX11_span_24 rfl ?_
        refine h_bipush dX11_span_25 cb_m9 ?_
        refine h_cV2 dX11_span_27 k3_108 oVX10_measure rfl rfl ?_
        refine c_measure (p := p) (e := -9) hG hp (fun g1 g2 g3 y1 y2 y3 => ?_)
        refine h_istore_n dX11_span_30 (Nat.le_of_ble_eq_true rfl) ?_
        refine h_iload_n dX11_span_31 rfl ?_
        refine h_ifeq (tgt := 40) dX11_span_32 rfl (fun c_32 => ?_) (fun c_32 => ?_)
        · obtain ⟨q, hsn, hqq⟩ := spE_ok c_32
          rw [hsn] at y1
          refine h_iload_n dX11_span_40 rfl ?_
          refine h_ifne (tgt := 56) dX11_span_41 rfl (fun _ => ?_) (fun c => absurd c (by decide))
          refine h_aload_n dX11_span_56 rfl ?_
          refine h_getR dX11_span_57 f_X11_10_9 rfl rfl ?_
          refine h_getR dX11_span_60 f_X11_245_8 rfl rfl ?_
          refine h_iload_n dX11_span_63 rfl ?_
          refine h_ialdN (j := p) dX11_span_64 rfl rfl (by omega) rfl (show _ = q.2 from y1.2) ?_
          refine h_ireturn dX11_span_65 rfl ?_
          have hQ := hQ _ (CO_3 I g1 g2 g3)
          rw [spF_1 hp hn8, hsn, spE_s hqq] at hQ
          exact hQ
        · refine h_ldc dX11_span_35 k3_126 ?_
          refine h_iload_n dX11_span_37 rfl ?_
          refine h_iadd dX11_span_38 ?_
          refine h_ireturn dX11_span_39 rfl ?_
          have hQ := hQ _ (CO_3 I g1 g2 g3)
          rw [spF_1 hp hn8, ← spE_bad c_32] at hQ
          exact hQ
      · exact absurd (by decide) b2
    · refine h_ifeq (tgt := 17) dX11_span_5 rfl (fun _ => ?_) (fun c => absurd (by decide) c)
      refine h_ldc dX11_span_17 k2_206 ?_
      refine h_ireturn dX11_span_19 rfl ?_
      have hQ := hQ _ (CO_id I)
      have hQ : Q (some (.int (cif _ _ _))) hSH I J (hRR lt tx) := hQ
      rw [cif_f (fun z => b1 z.1)] at hQ
      exact hQ
  show HV l mX11_span (dp + 6) 0 0 0 [some (.ref 0), some (.int x), some (.int w), none] [] hSH I J (hRR lt tx) Q
  refine h_aload_n dX11_span_0 rfl ?_
  refine h_iload_n dX11_span_1 rfl ?_
  refine h_cV1 dX11_span_2 k3_11 oVX11_isPoint rfl rfl ?_
  refine c_isPoint (n := np) hnp (by omega) (fun b1 => ?_) (fun b1 => ?_)
  · refine h_ifeq (tgt := 17) dX11_span_5 rfl (fun c => absurd c (by decide)) (fun _ => ?_)
    refine h_iload_n dX11_span_8 rfl ?_
    refine h_iconst dX11_span_9 ci_0 ?_
    refine h_iconst dX11_span_10 ci_1 ?_
    refine h_cS3 dX11_span_11 k2_154 oSX11_within rfl ?_
    refine c_X11_within (fun b2 => ?_) (fun b2 => ?_)
    · exfalso
      obtain ⟨wn, rfl, hw1, hw9⟩ := rng_ex (by omega) (by omega) b2.1 b2.2
      rcases (show wn = 0 ∨ wn = 1 by omega) with rfl | rfl
      · exact e_0 rfl
      · exact e_1 rfl
    · refine h_ifne (tgt := 20) dX11_span_14 rfl (fun c => absurd (by decide) c) (fun _ => ?_)
      refine h_ldc dX11_span_17 k2_206 ?_
      refine h_ireturn dX11_span_19 rfl ?_
      have hQ := hQ _ (CO_id I)
      have hQ : Q (some (.int (cif _ _ _))) hSH I J (hRR lt tx) := hQ
      rw [cif_f (fun z => b2 z.2)] at hQ
      exact hQ
  · refine h_ifeq (tgt := 17) dX11_span_5 rfl (fun _ => ?_) (fun c => absurd (by decide) c)
    refine h_ldc dX11_span_17 k2_206 ?_
    refine h_ireturn dX11_span_19 rfl ?_
    have hQ := hQ _ (CO_id I)
    have hQ : Q (some (.int (cif _ _ _))) hSH I J (hRR lt tx) := hQ
    rw [cif_f (fun z => b1 z.1)] at hQ
    exact hQ
theorem r_span {l : Launch} {dp : Nat} {ns nl np ml nk nw : Nat} {pl fa fb sl pp pm ki fr tg wh bw : Nat → Nat} {rs sn : Nat → Int32} {fl : Nat → Bool} {qw : Nat → Nat → Nat → Nat → Bool} {I : hI} {J : hJ} {lt tx : Option Nat} {x w : Int32} {Q : hQ} (hG : rG I ns nl np ml nk nw pl fa fb sl pp pm ki fr tg wh bw rs sn fl qw) (hQ : ∀ I', RO I I' → Q (some (.int (spF ns nl np ml nk nw pl fa fb sl pp pm ki fr tg wh bw rs sn fl qw x w))) hSH I' J (hRR lt tx)) : HC l mX12_span (dp + 7) 0 0 [.ref 82, .int x, .int w] hSH I J (hRR lt tx) Q := by
  refine HC.of (by decide +kernel) rfl (Nat.le_of_ble_eq_true rfl) ?_
  obtain ⟨hN, hw, ⟨hnp, hml, hnk, hpt, hsi⟩, ⟨hn8, hm2, hn24, hpW, hsW⟩, hL⟩ := id hG
  obtain ⟨hns, hnl, hpl, hlg⟩ := id hN
  obtain ⟨hn6, hl12, hW, hp99, hr99⟩ := id hw
  by_cases e_0 : w = nI 0
  · subst e_0
    show HV l mX12_span (dp + 7) 0 0 0 [some (.ref 82), some (.int x), some (.int (nI 0)), none] [] hSH I J (hRR lt tx) Q
    refine h_aload_n dX12_span_0 rfl ?_
    refine h_iload_n dX12_span_1 rfl ?_
    refine h_cV1 dX12_span_2 k5_238 oVX12_isPoint rfl rfl ?_
    refine r_isPoint (n := np) hnp (by omega) (fun b1 => ?_) (fun b1 => ?_)
    · refine h_ifeq (tgt := 17) dX12_span_5 rfl (fun c => absurd c (by decide)) (fun _ => ?_)
      refine h_iload_n dX12_span_8 rfl ?_
      refine h_iconst dX12_span_9 ci_0 ?_
      refine h_iconst dX12_span_10 ci_1 ?_
      refine h_cS3 dX12_span_11 k5_172 oSX12_in rfl ?_
      refine c_X12_in (fun b2 => ?_) (fun b2 => ?_)
      · obtain ⟨p, hp, rfl⟩ := b1
        refine h_ifne (tgt := 20) dX12_span_14 rfl (fun _ => ?_) (fun c => absurd c (by decide))
        refine h_aload_n dX12_span_20 rfl ?_
        refine h_iload_n dX12_span_21 rfl ?_
        refine h_cV1 dX12_span_22 k6_74 oVX12_noSpan rfl rfl ?_
        refine r_noSpan hG hp (fun a b c lo hi g1 g2 hLv y1 => ?_)
        refine h_istore_n dX12_span_25 (Nat.le_of_ble_eq_true rfl) ?_
        refine h_iload_n dX12_span_26 rfl ?_
        refine h_ifeq (tgt := 37) dX12_span_27 rfl (fun c_27 => ?_) (fun c_27 => ?_)
        · obtain ⟨q, hsn, hqq⟩ := spE_ok c_27
          rw [hsn] at y1
          refine h_iload_n dX12_span_37 rfl ?_
          refine h_ifne (tgt := 48) dX12_span_38 rfl (fun c => absurd (by decide) c) (fun _ => ?_)
          refine h_aload_n dX12_span_41 rfl ?_
          refine h_getI dX12_span_42 f_X12_200_10 rfl (show _ = q.1 from y1.1) ?_
          refine h_goto (tgt := 52) dX12_span_45 rfl ?_
          refine h_ireturn dX12_span_52 rfl ?_
          have hQ := hQ _ (RO_m I a b c lo hi g1 g2)
          rw [spF_0 hp hn8, hsn, spE_s hqq] at hQ
          exact hQ
        · refine h_ldc dX12_span_30 k6_86 ?_
          refine h_iload_n dX12_span_32 rfl ?_
          refine h_iadd dX12_span_33 ?_
          refine h_goto (tgt := 52) dX12_span_34 rfl ?_
          refine h_ireturn dX12_span_52 rfl ?_
          have hQ := hQ _ (RO_m I a b c lo hi g1 g2)
          rw [spF_0 hp hn8, ← spE_bad c_27] at hQ
          exact hQ
      · exact absurd (by decide) b2
    · refine h_ifeq (tgt := 17) dX12_span_5 rfl (fun _ => ?_) (fun c => absurd (by decide) c)
      refine h_ldc dX12_span_17 k5_187 ?_
      refine h_ireturn dX12_span_19 rfl ?_
      have hQ := hQ _ (RO_id I)
      have hQ : Q (some (.int (cif _ _ _))) hSH I J (hRR lt tx) := hQ
      rw [cif_f (fun z => b1 z.1)] at hQ
      exact hQ
  by_cases e_1 : w = nI 1
  · subst e_1
    show HV l mX12_span (dp + 7) 0 0 0 [some (.ref 82), some (.int x), some (.int (nI 1)), none] [] hSH I J (hRR lt tx) Q
    refine h_aload_n dX12_span_0 rfl ?_
    refine h_iload_n dX12_span_1 rfl ?_
    refine h_cV1 dX12_span_2 k5_238 oVX12_isPoint rfl rfl ?_
    refine r_isPoint (n := np) hnp (by omega) (fun b1 => ?_) (fun b1 => ?_)
    · refine h_ifeq (tgt := 17) dX12_span_5 rfl (fun c => absurd c (by decide)) (fun _ => ?_)
      refine h_iload_n dX12_span_8 rfl ?_
      refine h_iconst dX12_span_9 ci_0 ?_
      refine h_iconst dX12_span_10 ci_1 ?_
      refine h_cS3 dX12_span_11 k5_172 oSX12_in rfl ?_
      refine c_X12_in (fun b2 => ?_) (fun b2 => ?_)
      · obtain ⟨p, hp, rfl⟩ := b1
        refine h_ifne (tgt := 20) dX12_span_14 rfl (fun _ => ?_) (fun c => absurd c (by decide))
        refine h_aload_n dX12_span_20 rfl ?_
        refine h_iload_n dX12_span_21 rfl ?_
        refine h_cV1 dX12_span_22 k6_74 oVX12_noSpan rfl rfl ?_
        refine r_noSpan hG hp (fun a b c lo hi g1 g2 hLv y1 => ?_)
        refine h_istore_n dX12_span_25 (Nat.le_of_ble_eq_true rfl) ?_
        refine h_iload_n dX12_span_26 rfl ?_
        refine h_ifeq (tgt := 37) dX12_span_27 rfl (fun c_27 => ?_) (fun c_27 => ?_)
        · obtain ⟨q, hsn, hqq⟩ := spE_ok c_27
          rw [hsn] at y1
          refine h_iload_n dX12_span_37 rfl ?_
          refine h_ifne (tgt := 48) dX12_span_38 rfl (fun _ => ?_) (fun c => absurd c (by decide))
          refine h_aload_n dX12_span_48 rfl ?_
          refine h_getI dX12_span_49 f_X12_203_10 rfl (show _ = q.2 from y1.2) ?_
          refine h_ireturn dX12_span_52 rfl ?_
          have hQ := hQ _ (RO_m I a b c lo hi g1 g2)
          rw [spF_1 hp hn8, hsn, spE_s hqq] at hQ
          exact hQ
        · refine h_ldc dX12_span_30 k6_86 ?_
          refine h_iload_n dX12_span_32 rfl ?_
          refine h_iadd dX12_span_33 ?_
          refine h_goto (tgt := 52) dX12_span_34 rfl ?_
          refine h_ireturn dX12_span_52 rfl ?_
          have hQ := hQ _ (RO_m I a b c lo hi g1 g2)
          rw [spF_1 hp hn8, ← spE_bad c_27] at hQ
          exact hQ
      · exact absurd (by decide) b2
    · refine h_ifeq (tgt := 17) dX12_span_5 rfl (fun _ => ?_) (fun c => absurd (by decide) c)
      refine h_ldc dX12_span_17 k5_187 ?_
      refine h_ireturn dX12_span_19 rfl ?_
      have hQ := hQ _ (RO_id I)
      have hQ : Q (some (.int (cif _ _ _))) hSH I J (hRR lt tx) := hQ
      rw [cif_f (fun z => b1 z.1)] at hQ
      exact hQ
  show HV l mX12_span (dp + 7) 0 0 0 [some (.ref 82), some (.int x), some (.int w), none] [] hSH I J (hRR lt tx) Q
  refine h_aload_n dX12_span_0 rfl ?_
  refine h_iload_n dX12_span_1 rfl ?_
  refine h_cV1 dX12_span_2 k5_238 oVX12_isPoint rfl rfl ?_
  refine r_isPoint (n := np) hnp (by omega) (fun b1 => ?_) (fun b1 => ?_)
  · refine h_ifeq (tgt := 17) dX12_span_5 rfl (fun c => absurd c (by decide)) (fun _ => ?_)
    refine h_iload_n dX12_span_8 rfl ?_
    refine h_iconst dX12_span_9 ci_0 ?_
    refine h_iconst dX12_span_10 ci_1 ?_
    refine h_cS3 dX12_span_11 k5_172 oSX12_in rfl ?_
    refine c_X12_in (fun b2 => ?_) (fun b2 => ?_)
    · exfalso
      obtain ⟨wn, rfl, hw1, hw9⟩ := rng_ex (by omega) (by omega) b2.1 b2.2
      rcases (show wn = 0 ∨ wn = 1 by omega) with rfl | rfl
      · exact e_0 rfl
      · exact e_1 rfl
    · refine h_ifne (tgt := 20) dX12_span_14 rfl (fun c => absurd (by decide) c) (fun _ => ?_)
      refine h_ldc dX12_span_17 k5_187 ?_
      refine h_ireturn dX12_span_19 rfl ?_
      have hQ := hQ _ (RO_id I)
      have hQ : Q (some (.int (cif _ _ _))) hSH I J (hRR lt tx) := hQ
      rw [cif_f (fun z => b2 z.2)] at hQ
      exact hQ
  · refine h_ifeq (tgt := 17) dX12_span_5 rfl (fun _ => ?_) (fun c => absurd (by decide) c)
    refine h_ldc dX12_span_17 k5_187 ?_
    refine h_ireturn dX12_span_19 rfl ?_
    have hQ := hQ _ (RO_id I)
    have hQ : Q (some (.int (cif _ _ _))) hSH I J (hRR lt tx) := hQ
    rw [cif_f (fun z => b1 z.1)] at hQ
    exact hQ
theorem c_said {l : Launch} {dp : Nat} {ns nl np ml nk nw : Nat} {pl fa fb sl pp pm ki fr tg wh bw : Nat → Nat} {rs sn : Nat → Int32} {fl : Nat → Bool} {qw : Nat → Nat → Nat → Nat → Bool} {I : hI} {J : hJ} {lt tx : Option Nat} {x : Int32} {Q : hQ} (hG : cG I ns nl np ml nk nw pl fa fb sl pp pm ki fr tg wh bw rs sn fl qw) (hQ : ∀ I', CO I I' → Q (some (.int (sdF ns nl np ml nk nw pl fa fb sl pp pm ki fr tg wh bw rs sn fl qw x))) hSH I' J (hRR lt tx)) : HC l mX11_said (dp + 6) 0 0 [.ref 0, .int x] hSH I J (hRR lt tx) Q := by
  refine HC.of (by decide +kernel) rfl (Nat.le_of_ble_eq_true rfl) ?_
  show HV l mX11_said (dp + 6) 0 0 0 [some (.ref 0), some (.int x), none, none] [] hSH I J (hRR lt tx) Q
  obtain ⟨⟨hN, hdo, hla, hlv⟩, hw, ⟨hnp, hml, hnk, hpt, hsi, hbt⟩, ⟨hn8, hm2, hn24, hpW, hsW⟩, hL⟩ := id hG
  obtain ⟨hns, hnl, hpl, hlg⟩ := id hN
  obtain ⟨hn6, hl12, hW, hp99, hr99⟩ := id hw
  refine h_aload_n dX11_said_0 rfl ?_
  refine h_iload_n dX11_said_1 rfl ?_
  refine h_cV1 dX11_said_2 k3_11 oVX11_isPoint rfl rfl ?_
  refine c_isPoint (n := np) hnp (by omega) (fun b1 => ?_) (fun b1 => ?_)
  · obtain ⟨p, hp, rfl⟩ := b1
    refine h_ifne (tgt := 11) dX11_said_5 rfl (fun _ => ?_) (fun c => absurd c (by decide))
    refine h_aload_n dX11_said_11 rfl ?_
    refine h_getR dX11_said_12 f_X11_10_9 rfl rfl ?_
    refine h_iload_n dX11_said_15 rfl ?_
    refine h_bipush dX11_said_16 cb_m9 ?_
    refine h_cV2 dX11_said_18 k3_108 oVX10_measure rfl rfl ?_
    refine c_measure (p := p) (e := -9) hG hp (fun g1 g2 g3 y1 y2 y3 => ?_)
    refine h_istore_n dX11_said_21 (Nat.le_of_ble_eq_true rfl) ?_
    refine h_iload_n dX11_said_22 rfl ?_
    refine h_ifeq (tgt := 31) dX11_said_23 rfl (fun c_23 => ?_) (fun c_23 => ?_)
    · obtain ⟨q, hsn, hqq⟩ := spE_ok c_23
      rw [hsn] at y1
      refine h_aload_n dX11_said_31 rfl ?_
      refine h_getR dX11_said_32 f_X11_10_9 rfl rfl ?_
      refine h_getR dX11_said_35 f_X11_242_8 rfl rfl ?_
      refine h_iload_n dX11_said_38 rfl ?_
      refine h_ialdN (j := p) dX11_said_39 rfl rfl (by omega) rfl (show _ = q.1 from y1.1) ?_
      refine h_aload_n dX11_said_40 rfl ?_
      refine h_getR dX11_said_41 f_X11_10_9 rfl rfl ?_
      refine h_getR dX11_said_44 f_X11_245_8 rfl rfl ?_
      refine h_iload_n dX11_said_47 rfl ?_
      refine h_ialdN (j := p) dX11_said_48 rfl rfl (by omega) rfl (show _ = q.2 from y1.2) ?_
      refine h_iadd dX11_said_49 ?_
      refine h_iconst dX11_said_50 ci_2 ?_
      refine h_idiv dX11_said_51 (by decide) ?_
      refine h_istore_n dX11_said_52 (Nat.le_of_ble_eq_true rfl) ?_
      refine h_iload_n dX11_said_53 rfl ?_
      refine h_bipush dX11_said_54 cb_100 ?_
      refine h_irem dX11_said_56 (by decide) ?_
      refine h_ifne (tgt := 66) dX11_said_57 rfl (fun c_57 => ?_) (fun c_57 => ?_)
      · refine h_iload_n dX11_said_66 rfl ?_
        refine h_ireturn dX11_said_67 rfl ?_
        have hQ := hQ _ (CO_3 I g1 g2 g3)
        rw [sdF_p hp hn8, hsn, spE_s hqq] at hQ
        unfold sdV at hQ
        rw [if_neg c_57] at hQ
        exact hQ
      · refine h_iload_n dX11_said_60 rfl ?_
        refine h_iconst dX11_said_61 ci_2 ?_
        refine h_iadd dX11_said_62 ?_
        refine h_goto (tgt := 67) dX11_said_63 rfl ?_
        refine h_ireturn dX11_said_67 rfl ?_
        have hQ := hQ _ (CO_3 I g1 g2 g3)
        rw [sdF_p hp hn8, hsn, spE_s hqq] at hQ
        unfold sdV at hQ
        rw [if_pos c_57] at hQ
        exact hQ
    · refine h_ldc dX11_said_26 k3_126 ?_
      refine h_iload_n dX11_said_28 rfl ?_
      refine h_iadd dX11_said_29 ?_
      refine h_ireturn dX11_said_30 rfl ?_
      have hQ := hQ _ (CO_3 I g1 g2 g3)
      rw [sdF_p hp hn8, ← spE_bad c_23] at hQ
      exact hQ
  · refine h_ifne (tgt := 11) dX11_said_5 rfl (fun c => absurd (by decide) c) (fun _ => ?_)
    refine h_ldc dX11_said_8 k2_206 ?_
    refine h_ireturn dX11_said_10 rfl ?_
    have hQ := hQ _ (CO_id I)
    have hQ : Q (some (.int (cif _ _ _))) hSH I J (hRR lt tx) := hQ
    rw [cif_f b1] at hQ
    exact hQ
theorem r_said {l : Launch} {dp : Nat} {ns nl np ml nk nw : Nat} {pl fa fb sl pp pm ki fr tg wh bw : Nat → Nat} {rs sn : Nat → Int32} {fl : Nat → Bool} {qw : Nat → Nat → Nat → Nat → Bool} {I : hI} {J : hJ} {lt tx : Option Nat} {x : Int32} {Q : hQ} (hG : rG I ns nl np ml nk nw pl fa fb sl pp pm ki fr tg wh bw rs sn fl qw) (hQ : ∀ I', RO I I' → Q (some (.int (sdF ns nl np ml nk nw pl fa fb sl pp pm ki fr tg wh bw rs sn fl qw x))) hSH I' J (hRR lt tx)) : HC l mX12_said (dp + 7) 0 0 [.ref 82, .int x] hSH I J (hRR lt tx) Q := by
  refine HC.of (by decide +kernel) rfl (Nat.le_of_ble_eq_true rfl) ?_
  show HV l mX12_said (dp + 7) 0 0 0 [some (.ref 82), some (.int x), none, none] [] hSH I J (hRR lt tx) Q
  obtain ⟨hN, hw, ⟨hnp, hml, hnk, hpt, hsi⟩, ⟨hn8, hm2, hn24, hpW, hsW⟩, hL⟩ := id hG
  obtain ⟨hns, hnl, hpl, hlg⟩ := id hN
  obtain ⟨hn6, hl12, hW, hp99, hr99⟩ := id hw
  refine h_aload_n dX12_said_0 rfl ?_
  refine h_iload_n dX12_said_1 rfl ?_
  refine h_cV1 dX12_said_2 k5_238 oVX12_isPoint rfl rfl ?_
  refine r_isPoint (n := np) hnp (by omega) (fun b1 => ?_) (fun b1 => ?_)
  · obtain ⟨p, hp, rfl⟩ := b1
    refine h_ifne (tgt := 11) dX12_said_5 rfl (fun _ => ?_) (fun c => absurd c (by decide))
    refine h_aload_n dX12_said_11 rfl ?_
    refine h_iload_n dX12_said_12 rfl ?_
    refine h_cV1 dX12_said_13 k6_74 oVX12_noSpan rfl rfl ?_
    refine r_noSpan hG hp (fun a b c lo hi g1 g2 hLv y1 => ?_)
    refine h_istore_n dX12_said_16 (Nat.le_of_ble_eq_true rfl) ?_
    refine h_iload_n dX12_said_17 rfl ?_
    refine h_ifeq (tgt := 26) dX12_said_18 rfl (fun c_18 => ?_) (fun c_18 => ?_)
    · obtain ⟨q, hsn, hqq⟩ := spE_ok c_18
      rw [hsn] at y1
      refine h_aload_n dX12_said_26 rfl ?_
      refine h_getI dX12_said_27 f_X12_200_10 rfl (show _ = q.1 from y1.1) ?_
      refine h_aload_n dX12_said_30 rfl ?_
      refine h_getI dX12_said_31 f_X12_203_10 rfl (show _ = q.2 from y1.2) ?_
      refine h_iadd dX12_said_34 ?_
      refine h_iconst dX12_said_35 ci_2 ?_
      refine h_idiv dX12_said_36 (by decide) ?_
      refine h_istore_n dX12_said_37 (Nat.le_of_ble_eq_true rfl) ?_
      refine h_iload_n dX12_said_38 rfl ?_
      refine h_bipush dX12_said_39 cb_100 ?_
      refine h_irem dX12_said_41 (by decide) ?_
      refine h_ifne (tgt := 51) dX12_said_42 rfl (fun c_42 => ?_) (fun c_42 => ?_)
      · refine h_iload_n dX12_said_51 rfl ?_
        refine h_ireturn dX12_said_52 rfl ?_
        have hQ := hQ _ (RO_m I a b c lo hi g1 g2)
        rw [sdF_p hp hn8, hsn, spE_s hqq] at hQ
        unfold sdV at hQ
        rw [if_neg c_42] at hQ
        exact hQ
      · refine h_iload_n dX12_said_45 rfl ?_
        refine h_iconst dX12_said_46 ci_2 ?_
        refine h_iadd dX12_said_47 ?_
        refine h_goto (tgt := 52) dX12_said_48 rfl ?_
        refine h_ireturn dX12_said_52 rfl ?_
        have hQ := hQ _ (RO_m I a b c lo hi g1 g2)
        rw [sdF_p hp hn8, hsn, spE_s hqq] at hQ
        unfold sdV at hQ
        rw [if_pos c_42] at hQ
        exact hQ
    · refine h_ldc dX12_said_21 k6_86 ?_
      refine h_iload_n dX12_said_23 rfl ?_
      refine h_iadd dX12_said_24 ?_
      refine h_ireturn dX12_said_25 rfl ?_
      have hQ := hQ _ (RO_m I a b c lo hi g1 g2)
      rw [sdF_p hp hn8, ← spE_bad c_18] at hQ
      exact hQ
  · refine h_ifne (tgt := 11) dX12_said_5 rfl (fun c => absurd (by decide) c) (fun _ => ?_)
    refine h_ldc dX12_said_8 k5_187 ?_
    refine h_ireturn dX12_said_10 rfl ?_
    have hQ := hQ _ (RO_id I)
    have hQ : Q (some (.int (cif _ _ _))) hSH I J (hRR lt tx) := hQ
    rw [cif_f b1] at hQ
    exact hQ
theorem c_believed {l : Launch} {dp : Nat} {ns nl np ml nk nw : Nat} {pl fa fb sl pp pm ki fr tg wh bw : Nat → Nat} {rs sn : Nat → Int32} {fl : Nat → Bool} {qw : Nat → Nat → Nat → Nat → Bool} {I : hI} {J : hJ} {lt tx : Option Nat} {x w : Int32} {Q : hQ} (hG : cG I ns nl np ml nk nw pl fa fb sl pp pm ki fr tg wh bw rs sn fl qw) (hQ : ∀ I', CO I I' → Q (some (.int (blF ns nl np ml nk nw pl fa fb sl pp pm ki fr tg wh bw rs sn fl qw x w))) hSH I' J (hRR lt tx)) : HC l mX11_believed (dp + 6) 0 0 [.ref 0, .int x, .int w] hSH I J (hRR lt tx) Q := by
  refine HC.of (by decide +kernel) rfl (Nat.le_of_ble_eq_true rfl) ?_
  show HV l mX11_believed (dp + 6) 0 0 0 [some (.ref 0), some (.int x), some (.int w)] [] hSH I J (hRR lt tx) Q
  obtain ⟨⟨hN, hdo, hla, hlv⟩, hw, ⟨hnp, hml, hnk, hpt, hsi, hbt⟩, ⟨hn8, hm2, hn24, hpW, hsW⟩, hL⟩ := id hG
  obtain ⟨hns, hnl, hpl, hlg⟩ := id hN
  obtain ⟨hn6, hl12, hW, hp99, hr99⟩ := id hw
  refine h_aload_n dX11_believed_0 rfl ?_
  refine h_iload_n dX11_believed_1 rfl ?_
  refine h_cV1 dX11_believed_2 k3_11 oVX11_isPoint rfl rfl ?_
  refine c_isPoint (n := np) hnp (by omega) (fun b1 => ?_) (fun b1 => ?_)
  · obtain ⟨p, hp, rfl⟩ := b1
    refine h_ifne (tgt := 10) dX11_believed_5 rfl (fun _ => ?_) (fun c => absurd c (by decide))
    refine h_aload_n dX11_believed_10 rfl ?_
    refine h_getR dX11_believed_11 f_X11_10_9 rfl rfl ?_
    refine h_iload_n dX11_believed_14 rfl ?_
    refine h_bipush dX11_believed_15 cb_m9 ?_
    refine h_cV2 dX11_believed_17 k3_108 oVX10_measure rfl rfl ?_
    refine c_measure (p := p) (e := -9) hG hp (fun g1 g2 g3 y1 y2 y3 => ?_)
    refine h_ifne (tgt := 30) dX11_believed_20 rfl (fun c_20 => ?_) (fun c_20 => ?_)
    · refine h_iconst dX11_believed_30 ci_0 ?_
      refine h_ireturn dX11_believed_31 rfl ?_
      have hQ := hQ _ (CO_3 I g1 g2 g3)
      rw [blF_p hp hn8] at hQ
      rw [cif_f (fun z => by
        obtain ⟨q, z1, z2, -⟩ := z
        rw [z1] at c_20
        exact c_20 (if_neg z2))] at hQ
      exact hQ
    · obtain ⟨q, hsn, hqq⟩ := spE_ok c_20
      rw [hsn] at y1
      refine h_iload_n dX11_believed_23 rfl ?_
      refine h_bipush dX11_believed_24 cb_100 ?_
      refine h_irem dX11_believed_26 (by decide) ?_
      refine h_ifne (tgt := 32) dX11_believed_27 rfl (fun c_27 => ?_) (fun c_27 => ?_)
      · refine h_iload_n dX11_believed_32 rfl ?_
        refine h_aload_n dX11_believed_33 rfl ?_
        refine h_getR dX11_believed_34 f_X11_10_9 rfl rfl ?_
        refine h_getR dX11_believed_37 f_X11_242_8 rfl rfl ?_
        refine h_iload_n dX11_believed_40 rfl ?_
        refine h_ialdN (j := p) dX11_believed_41 rfl rfl (by omega) rfl (show _ = q.1 from y1.1) ?_
        refine h_aload_n dX11_believed_42 rfl ?_
        refine h_getR dX11_believed_43 f_X11_10_9 rfl rfl ?_
        refine h_getR dX11_believed_46 f_X11_245_8 rfl rfl ?_
        refine h_iload_n dX11_believed_49 rfl ?_
        refine h_ialdN (j := p) dX11_believed_50 rfl rfl (by omega) rfl (show _ = q.2 from y1.2) ?_
        refine h_cS3 dX11_believed_51 k2_154 oSX11_within rfl ?_
        refine c_X11_within (fun b3 => ?_) (fun b3 => ?_)
        · refine h_ifeq (tgt := 61) dX11_believed_54 rfl (fun c => absurd c (by decide)) (fun _ => ?_)
          refine h_iconst dX11_believed_57 ci_1 ?_
          refine h_goto (tgt := 62) dX11_believed_58 rfl ?_
          refine h_ireturn dX11_believed_62 rfl ?_
          have hQ := hQ _ (CO_3 I g1 g2 g3)
          rw [blF_p hp hn8] at hQ
          rw [cif_t ⟨q, hsn, hqq, b3, c_27⟩] at hQ
          exact hQ
        · refine h_ifeq (tgt := 61) dX11_believed_54 rfl (fun _ => ?_) (fun c => absurd (by decide) c)
          refine h_iconst dX11_believed_61 ci_0 ?_
          refine h_ireturn dX11_believed_62 rfl ?_
          have hQ := hQ _ (CO_3 I g1 g2 g3)
          rw [blF_p hp hn8] at hQ
          rw [cif_f (fun z => by
            obtain ⟨q2, z1, z2, z3, z4⟩ := z
            rw [hsn] at z1
            cases z1
            exact b3 z3)] at hQ
          exact hQ
      · refine h_iconst dX11_believed_30 ci_0 ?_
        refine h_ireturn dX11_believed_31 rfl ?_
        have hQ := hQ _ (CO_3 I g1 g2 g3)
        rw [blF_p hp hn8] at hQ
        rw [cif_f (fun z => by
          obtain ⟨q2, z1, z2, z3, z4⟩ := z
          rw [hsn] at z1
          cases z1
          exact z4 c_27)] at hQ
        exact hQ
  · refine h_ifne (tgt := 10) dX11_believed_5 rfl (fun c => absurd (by decide) c) (fun _ => ?_)
    refine h_iconst dX11_believed_8 ci_m1 ?_
    refine h_ireturn dX11_believed_9 rfl ?_
    have hQ := hQ _ (CO_id I)
    have hQ : Q (some (.int (cif _ _ _))) hSH I J (hRR lt tx) := hQ
    rw [cif_f b1] at hQ
    exact hQ
theorem r_believed {l : Launch} {dp : Nat} {ns nl np ml nk nw : Nat} {pl fa fb sl pp pm ki fr tg wh bw : Nat → Nat} {rs sn : Nat → Int32} {fl : Nat → Bool} {qw : Nat → Nat → Nat → Nat → Bool} {I : hI} {J : hJ} {lt tx : Option Nat} {x w : Int32} {Q : hQ} (hG : rG I ns nl np ml nk nw pl fa fb sl pp pm ki fr tg wh bw rs sn fl qw) (hQ : ∀ I', RO I I' → Q (some (.int (blF ns nl np ml nk nw pl fa fb sl pp pm ki fr tg wh bw rs sn fl qw x w))) hSH I' J (hRR lt tx)) : HC l mX12_believed (dp + 7) 0 0 [.ref 82, .int x, .int w] hSH I J (hRR lt tx) Q := by
  refine HC.of (by decide +kernel) rfl (Nat.le_of_ble_eq_true rfl) ?_
  show HV l mX12_believed (dp + 7) 0 0 0 [some (.ref 82), some (.int x), some (.int w)] [] hSH I J (hRR lt tx) Q
  obtain ⟨hN, hw, ⟨hnp, hml, hnk, hpt, hsi⟩, ⟨hn8, hm2, hn24, hpW, hsW⟩, hL⟩ := id hG
  obtain ⟨hns, hnl, hpl, hlg⟩ := id hN
  obtain ⟨hn6, hl12, hW, hp99, hr99⟩ := id hw
  refine h_aload_n dX12_believed_0 rfl ?_
  refine h_iload_n dX12_believed_1 rfl ?_
  refine h_cV1 dX12_believed_2 k5_238 oVX12_isPoint rfl rfl ?_
  refine r_isPoint (n := np) hnp (by omega) (fun b1 => ?_) (fun b1 => ?_)
  · obtain ⟨p, hp, rfl⟩ := b1
    refine h_ifne (tgt := 10) dX12_believed_5 rfl (fun _ => ?_) (fun c => absurd c (by decide))
    refine h_aload_n dX12_believed_10 rfl ?_
    refine h_iload_n dX12_believed_11 rfl ?_
    refine h_cV1 dX12_believed_12 k6_74 oVX12_noSpan rfl rfl ?_
    refine r_noSpan hG hp (fun a b c lo hi g1 g2 hLv y1 => ?_)
    refine h_ifne (tgt := 44) dX12_believed_15 rfl (fun c_15 => ?_) (fun c_15 => ?_)
    · refine h_iconst dX12_believed_44 ci_0 ?_
      refine h_ireturn dX12_believed_45 rfl ?_
      have hQ := hQ _ (RO_m I a b c lo hi g1 g2)
      rw [blF_p hp hn8] at hQ
      rw [cif_f (fun z => by
        obtain ⟨q, z1, z2, -⟩ := z
        rw [z1] at c_15
        exact c_15 (if_neg z2))] at hQ
      exact hQ
    · obtain ⟨q, hsn, hqq⟩ := spE_ok c_15
      rw [hsn] at y1
      refine h_iload_n dX12_believed_18 rfl ?_
      refine h_aload_n dX12_believed_19 rfl ?_
      refine h_getI dX12_believed_20 f_X12_200_10 rfl (show _ = q.1 from y1.1) ?_
      refine h_aload_n dX12_believed_23 rfl ?_
      refine h_getI dX12_believed_24 f_X12_203_10 rfl (show _ = q.2 from y1.2) ?_
      refine h_cS3 dX12_believed_27 k5_172 oSX12_in rfl ?_
      refine c_X12_in (fun b3 => ?_) (fun b3 => ?_)
      · refine h_ifeq (tgt := 44) dX12_believed_30 rfl (fun c => absurd c (by decide)) (fun _ => ?_)
        refine h_iload_n dX12_believed_33 rfl ?_
        refine h_bipush dX12_believed_34 cb_100 ?_
        refine h_irem dX12_believed_36 (by decide) ?_
        refine h_ifeq (tgt := 44) dX12_believed_37 rfl (fun c_37 => ?_) (fun c_37 => ?_)
        · refine h_iconst dX12_believed_44 ci_0 ?_
          refine h_ireturn dX12_believed_45 rfl ?_
          have hQ := hQ _ (RO_m I a b c lo hi g1 g2)
          rw [blF_p hp hn8] at hQ
          rw [cif_f (fun z => by
            obtain ⟨q2, z1, z2, z3, z4⟩ := z
            rw [hsn] at z1
            cases z1
            exact z4 c_37)] at hQ
          exact hQ
        · refine h_iconst dX12_believed_40 ci_1 ?_
          refine h_goto (tgt := 45) dX12_believed_41 rfl ?_
          refine h_ireturn dX12_believed_45 rfl ?_
          have hQ := hQ _ (RO_m I a b c lo hi g1 g2)
          rw [blF_p hp hn8] at hQ
          rw [cif_t ⟨q, hsn, hqq, b3, c_37⟩] at hQ
          exact hQ
      · refine h_ifeq (tgt := 44) dX12_believed_30 rfl (fun _ => ?_) (fun c => absurd (by decide) c)
        refine h_iconst dX12_believed_44 ci_0 ?_
        refine h_ireturn dX12_believed_45 rfl ?_
        have hQ := hQ _ (RO_m I a b c lo hi g1 g2)
        rw [blF_p hp hn8] at hQ
        rw [cif_f (fun z => by
          obtain ⟨q2, z1, z2, z3, z4⟩ := z
          rw [hsn] at z1
          cases z1
          exact b3 z3)] at hQ
        exact hQ
  · refine h_ifne (tgt := 10) dX12_believed_5 rfl (fun c => absurd (by decide) c) (fun _ => ?_)
    refine h_iconst dX12_believed_8 ci_m1 ?_
    refine h_ireturn dX12_believed_9 rfl ?_
    have hQ := hQ _ (RO_id I)
    have hQ : Q (some (.int (cif _ _ _))) hSH I J (hRR lt tx) := hQ
    rw [cif_f b1] at hQ
    exact hQ
def mkB (P : Nat → Bool) : Nat → Int32
  | 0 => nI 0
  | k + 1 => if P k = true then mkB P k ||| (nI 1 <<< (nI k &&& 31)) else mkB P k
theorem mkB_t {P : Nat → Bool} {k : Nat} (h : P k = true) : mkB P (k + 1) = mkB P k ||| (nI 1 <<< (nI k &&& 31)) := if_pos h
theorem mkB_f {P : Nat → Bool} {k : Nat} (h : ¬ P k = true) : mkB P (k + 1) = mkB P k := if_neg h
def ctP (nl : Nat) (fa fb sl fr tg : Nat → Nat) (fl : Nat → Bool) (p k : Nat) : Bool := decide (tg k = p) && cnK nl fa fb sl fr fl k
theorem ctP_t {nl : Nat} {fa fb sl fr tg : Nat → Nat} {fl : Nat → Bool} {p k : Nat} (h1 : tg k = p) (h2 : cnK nl fa fb sl fr fl k = true) : ctP nl fa fb sl fr tg fl p k = true := by
  unfold ctP
  rw [h2, decide_eq_true h1]
  rfl
theorem ctP_1 {nl : Nat} {fa fb sl fr tg : Nat → Nat} {fl : Nat → Bool} {p k : Nat} (h1 : ¬ tg k = p) : ¬ ctP nl fa fb sl fr tg fl p k = true := by
  unfold ctP
  rw [decide_eq_false h1]
  simp
theorem ctP_2 {nl : Nat} {fa fb sl fr tg : Nat → Nat} {fl : Nat → Bool} {p k : Nat} (h2 : ¬ cnK nl fa fb sl fr fl k = true) : ¬ ctP nl fa fb sl fr tg fl p k = true := by
  unfold ctP
  simp [h2]
theorem c_counted {l : Launch} {dp : Nat} {ns nl np ml nk nw : Nat} {pl fa fb sl pp pm ki fr tg wh bw : Nat → Nat} {rs sn : Nat → Int32} {fl : Nat → Bool} {qw : Nat → Nat → Nat → Nat → Bool} {I : hI} {J : hJ} {lt tx : Option Nat} {x : Int32} {Q : hQ} (hG : cG I ns nl np ml nk nw pl fa fb sl pp pm ki fr tg wh bw rs sn fl qw) (hB : ¬ isIx x np → Q (some (.int (-1))) hSH I J (hRR lt tx)) (hO : ∀ p, p < np → x = nI p → Q (some (.int (mkB (ctP nl fa fb sl fr tg fl p) nk))) hSH I J (hRR lt tx)) : HC l mX11_counted (dp + 2) 0 0 [.ref 0, .int x] hSH I J (hRR lt tx) Q := by
  refine HC.of (by decide +kernel) rfl (Nat.le_of_ble_eq_true rfl) ?_
  obtain ⟨⟨hN, hdo, hla, hlv⟩, hw, ⟨hnp, hml, hnk, hpt, hsi, hbt⟩, ⟨hn8, hm2, hn24, hpW, hsW⟩, hL⟩ := id hG
  obtain ⟨hns, hnl, hpl, hlg⟩ := id hN
  obtain ⟨hn6, hl12, hW, hp99, hr99⟩ := id hw
  have Lo : ∀ (p : Nat) (hp : p < np) (e0 : x = nI p) (m k : Nat), nk - k < m → k ≤ nk → HV l mX11_counted (dp + 2) 0 0 14 [some (.ref 0), some (.int (nI p)), some (.int (mkB (ctP nl fa fb sl fr tg fl p) k)), some (.int (nI k))] [] hSH I J (hRR lt tx) Q := by
    intro p hp e0 m
    induction m with
    | zero => intro k h1 h2; omega
    | succ m ih =>
      intro k h1 h2
      have w1 := fun h => hsW k h
      refine h_iload_n dX11_counted_14 rfl ?_
      refine h_aload_n dX11_counted_15 rfl ?_
      refine h_getR dX11_counted_16 f_X11_10_9 rfl rfl ?_
      refine h_getI dX11_counted_19 f_X11_191_8 rfl hnk ?_
      refine h_icmpge (tgt := 61) dX11_counted_22 rfl (fun c_22 => ?_) (fun c_22 => ?_)
      · rw [nI_leI (by omega) (by omega)] at c_22
        refine h_iload_n dX11_counted_61 rfl ?_
        refine h_ireturn dX11_counted_62 rfl ?_
        have ek : nk = k := by omega
        subst ek
        exact hO p hp e0
      · rw [nI_leI (by omega) (by omega)] at c_22
        have w2 := w1 (by omega)
        refine h_aload_n dX11_counted_25 rfl ?_
        refine h_getR dX11_counted_26 f_X11_10_9 rfl rfl ?_
        refine h_getR dX11_counted_29 f_X11_207_8 rfl rfl ?_
        refine h_iload_n dX11_counted_32 rfl ?_
        refine h_ialdN (j := k) dX11_counted_33 rfl rfl (by omega) rfl (hsi _ (by omega)).2.2.1 ?_
        refine h_iload_n dX11_counted_34 rfl ?_
        refine h_icmpne (tgt := 55) dX11_counted_35 rfl (fun c_35 => ?_) (fun c_35 => ?_)
        · rw [nI_eq (by omega) (by omega)] at c_35
          refine h_iinc (v := nI (k + 1)) dX11_counted_55 rfl (nI_1 _) (Nat.le_of_ble_eq_true rfl) ?_
          refine h_goto (tgt := 14) dX11_counted_58 rfl ?_
          have h3 := ih (k + 1) (by omega) (by omega)
          rw [mkB_f (ctP_1 c_35)] at h3
          exact h3
        · rw [nI_eq (by omega) (by omega)] at c_35
          refine h_aload_n dX11_counted_38 rfl ?_
          refine h_getR dX11_counted_39 f_X11_10_9 rfl rfl ?_
          refine h_iload_n dX11_counted_42 rfl ?_
          refine h_cV1 dX11_counted_43 k3_131 oVX10_counts rfl rfl ?_
          refine c_counts hG (by omega) (fun b2 => ?_) (fun b2 => ?_)
          · refine h_ifeq (tgt := 55) dX11_counted_46 rfl (fun c => absurd c (by decide)) (fun _ => ?_)
            refine h_iload_n dX11_counted_49 rfl ?_
            refine h_iconst dX11_counted_50 ci_1 ?_
            refine h_iload_n dX11_counted_51 rfl ?_
            refine h_ishl dX11_counted_52 ?_
            refine h_ior dX11_counted_53 ?_
            refine h_istore_n dX11_counted_54 (Nat.le_of_ble_eq_true rfl) ?_
            refine h_iinc (v := nI (k + 1)) dX11_counted_55 rfl (nI_1 _) (Nat.le_of_ble_eq_true rfl) ?_
            refine h_goto (tgt := 14) dX11_counted_58 rfl ?_
            have h3 := ih (k + 1) (by omega) (by omega)
            rw [mkB_t (ctP_t (p := p) (by omega) b2)] at h3
            exact h3
          · refine h_ifeq (tgt := 55) dX11_counted_46 rfl (fun _ => ?_) (fun c => absurd (by decide) c)
            refine h_iinc (v := nI (k + 1)) dX11_counted_55 rfl (nI_1 _) (Nat.le_of_ble_eq_true rfl) ?_
            refine h_goto (tgt := 14) dX11_counted_58 rfl ?_
            have h3 := ih (k + 1) (by omega) (by omega)
            rw [mkB_f (ctP_2 b2)] at h3
            exact h3
  show HV l mX11_counted (dp + 2) 0 0 0 [some (.ref 0), some (.int x), none, none] [] hSH I J (hRR lt tx) Q
  refine h_aload_n dX11_counted_0 rfl ?_
  refine h_iload_n dX11_counted_1 rfl ?_
  refine h_cV1 dX11_counted_2 k3_11 oVX11_isPoint rfl rfl ?_
  refine c_isPoint (n := np) hnp (by omega) (fun b1 => ?_) (fun b1 => ?_)
  · obtain ⟨p, hp, rfl⟩ := b1
    refine h_ifne (tgt := 10) dX11_counted_5 rfl (fun _ => ?_) (fun c => absurd c (by decide))
    refine h_iconst dX11_counted_10 ci_0 ?_
    refine h_istore_n dX11_counted_11 (Nat.le_of_ble_eq_true rfl) ?_
    refine h_iconst dX11_counted_12 ci_0 ?_
    refine h_istore_n dX11_counted_13 (Nat.le_of_ble_eq_true rfl) ?_
    exact Lo p hp rfl (nk + 1) 0 (by omega) (by omega)
  · refine h_ifne (tgt := 10) dX11_counted_5 rfl (fun c => absurd (by decide) c) (fun _ => ?_)
    refine h_iconst dX11_counted_8 ci_m1 ?_
    refine h_ireturn dX11_counted_9 rfl ?_
    exact hB b1
theorem r_counted {l : Launch} {dp : Nat} {ns nl np ml nk nw : Nat} {pl fa fb sl pp pm ki fr tg wh bw : Nat → Nat} {rs sn : Nat → Int32} {fl : Nat → Bool} {qw : Nat → Nat → Nat → Nat → Bool} {I : hI} {J : hJ} {lt tx : Option Nat} {x : Int32} {Q : hQ} (hG : rG I ns nl np ml nk nw pl fa fb sl pp pm ki fr tg wh bw rs sn fl qw) (hB : ¬ isIx x np → Q (some (.int (-1))) hSH I J (hRR lt tx)) (hO : ∀ p, p < np → x = nI p → ∀ a b c, Q (some (.int (mkB (ctP nl fa fb sl fr tg fl p) nk))) hSH (upA (upA (upA I 90 a) 92 b) 91 c) J (hRR lt tx)) : HC l mX12_counted (dp + 3) 0 0 [.ref 82, .int x] hSH I J (hRR lt tx) Q := by
  refine HC.of (by decide +kernel) rfl (Nat.le_of_ble_eq_true rfl) ?_
  obtain ⟨hN, hw, ⟨hnp, hml, hnk, hpt, hsi⟩, ⟨hn8, hm2, hn24, hpW, hsW⟩, hL⟩ := id hG
  obtain ⟨hns, hnl, hpl, hlg⟩ := id hN
  obtain ⟨hn6, hl12, hW, hp99, hr99⟩ := id hw
  have Lo : ∀ (p : Nat) (hp : p < np) (e0 : x = nI p) (a b c : Nat → Int32) (hLv : rL (upA (upA (upA I 90 a) 92 b) 91 c) ns nl fa fb sl rs) (m k : Nat), nk - k < m → k ≤ nk → HV l mX12_counted (dp + 3) 0 0 18 [some (.ref 82), some (.int (nI p)), some (.int (mkB (ctP nl fa fb sl fr tg fl p) k)), some (.int (nI k))] [] hSH (upA (upA (upA I 90 a) 92 b) 91 c) J (hRR lt tx) Q := by
    intro p hp e0 a b c hLv m
    induction m with
    | zero => intro k h1 h2; omega
    | succ m ih =>
      intro k h1 h2
      have w1 := fun h => hsW k h
      refine h_iload_n dX12_counted_18 rfl ?_
      refine h_aload_n dX12_counted_19 rfl ?_
      refine h_getI dX12_counted_20 f_X12_113_10 rfl hnk ?_
      refine h_icmpge (tgt := 65) dX12_counted_23 rfl (fun c_23 => ?_) (fun c_23 => ?_)
      · rw [nI_leI (by omega) (by omega)] at c_23
        refine h_iload_n dX12_counted_65 rfl ?_
        refine h_ireturn dX12_counted_66 rfl ?_
        have ek : nk = k := by omega
        subst ek
        exact hO p hp e0 a b c
      · rw [nI_leI (by omega) (by omega)] at c_23
        have w2 := w1 (by omega)
        refine h_iload_n dX12_counted_26 rfl ?_
        refine h_aload_n dX12_counted_27 rfl ?_
        refine h_getR dX12_counted_28 f_X12_19_10 rfl rfl ?_
        refine h_bipush dX12_counted_31 cb_7 ?_
        refine h_iload_n dX12_counted_33 rfl ?_
        refine h_imulN dX12_counted_34 ?_
        refine h_iconst dX12_counted_35 ci_2 ?_
        refine h_iaddN dX12_counted_36 ?_
        refine h_ialdN (j := (7 * k) + 2) dX12_counted_37 rfl rfl (by omega) rfl (hsi k (by omega)).2.2.1 ?_
        refine h_iload_n dX12_counted_38 rfl ?_
        refine h_icmpne (tgt := 56) dX12_counted_39 rfl (fun c_39 => ?_) (fun c_39 => ?_)
        · rw [nI_eq (by omega) (by omega)] at c_39
          refine h_iconst dX12_counted_56 ci_0 ?_
          refine h_ior dX12_counted_57 ?_
          refine h_istore_n dX12_counted_58 (Nat.le_of_ble_eq_true rfl) ?_
          refine h_iinc (v := nI (k + 1)) dX12_counted_59 rfl (nI_1 _) (Nat.le_of_ble_eq_true rfl) ?_
          refine h_goto (tgt := 18) dX12_counted_62 rfl ?_
          have h3 := ih (k + 1) (by omega) (by omega)
          rw [mkB_f (ctP_1 c_39)] at h3
          rw [show nI 0 = (0 : Int32) by decide, Int32.or_zero]
          exact h3
        · rw [nI_eq (by omega) (by omega)] at c_39
          refine h_aload_n dX12_counted_42 rfl ?_
          refine h_iload_n dX12_counted_43 rfl ?_
          refine h_cV1 dX12_counted_44 k6_82 oVX12_counts rfl rfl ?_
          refine r_counts (I := upA (upA (upA I 90 a) 92 b) 91 c) hG hLv (by omega) (fun b2 => ?_) (fun b2 => ?_)
          · refine h_ifeq (tgt := 56) dX12_counted_47 rfl (fun c => absurd c (by decide)) (fun _ => ?_)
            refine h_iconst dX12_counted_50 ci_1 ?_
            refine h_iload_n dX12_counted_51 rfl ?_
            refine h_ishl dX12_counted_52 ?_
            refine h_goto (tgt := 57) dX12_counted_53 rfl ?_
            refine h_ior dX12_counted_57 ?_
            refine h_istore_n dX12_counted_58 (Nat.le_of_ble_eq_true rfl) ?_
            refine h_iinc (v := nI (k + 1)) dX12_counted_59 rfl (nI_1 _) (Nat.le_of_ble_eq_true rfl) ?_
            refine h_goto (tgt := 18) dX12_counted_62 rfl ?_
            have h3 := ih (k + 1) (by omega) (by omega)
            rw [mkB_t (ctP_t (p := p) (by omega) b2)] at h3
            exact h3
          · refine h_ifeq (tgt := 56) dX12_counted_47 rfl (fun _ => ?_) (fun c => absurd (by decide) c)
            refine h_iconst dX12_counted_56 ci_0 ?_
            refine h_ior dX12_counted_57 ?_
            refine h_istore_n dX12_counted_58 (Nat.le_of_ble_eq_true rfl) ?_
            refine h_iinc (v := nI (k + 1)) dX12_counted_59 rfl (nI_1 _) (Nat.le_of_ble_eq_true rfl) ?_
            refine h_goto (tgt := 18) dX12_counted_62 rfl ?_
            have h3 := ih (k + 1) (by omega) (by omega)
            rw [mkB_f (ctP_2 b2)] at h3
            rw [show nI 0 = (0 : Int32) by decide, Int32.or_zero]
            exact h3
  show HV l mX12_counted (dp + 3) 0 0 0 [some (.ref 82), some (.int x), none, none] [] hSH I J (hRR lt tx) Q
  refine h_aload_n dX12_counted_0 rfl ?_
  refine h_iload_n dX12_counted_1 rfl ?_
  refine h_cV1 dX12_counted_2 k5_238 oVX12_isPoint rfl rfl ?_
  refine r_isPoint (n := np) hnp (by omega) (fun b1 => ?_) (fun b1 => ?_)
  · obtain ⟨p, hp, rfl⟩ := b1
    refine h_ifne (tgt := 10) dX12_counted_5 rfl (fun _ => ?_) (fun c => absurd c (by decide))
    refine h_aload_n dX12_counted_10 rfl ?_
    refine h_cV0 dX12_counted_11 k5_200 oVX12_findLevels rfl rfl ?_
    refine r_findLevels hN hw (fun a c b hLv => ?_)
    refine h_iconst dX12_counted_14 ci_0 ?_
    refine h_istore_n dX12_counted_15 (Nat.le_of_ble_eq_true rfl) ?_
    refine h_iconst dX12_counted_16 ci_0 ?_
    refine h_istore_n dX12_counted_17 (Nat.le_of_ble_eq_true rfl) ?_
    exact Lo p hp rfl a b c hLv (nk + 1) 0 (by omega) (by omega)
  · refine h_ifne (tgt := 10) dX12_counted_5 rfl (fun c => absurd (by decide) c) (fun _ => ?_)
    refine h_iconst dX12_counted_8 ci_m1 ?_
    refine h_ireturn dX12_counted_9 rfl ?_
    exact hB b1
