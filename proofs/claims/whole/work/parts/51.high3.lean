theorem ctr_0 {f : Nat → Int32} : ∀ n, (ctr f n = 0 ↔ ∀ r, r < n → ¬ f r = -4) ∧ ctr f n ≤ 1
  | 0 => ⟨⟨fun _ r hr => by omega, fun _ => rfl⟩, by unfold ctr; omega⟩
  | n + 1 => by
    obtain ⟨h1, h2⟩ := ctr_0 (f := f) n
    unfold ctr
    by_cases e : f n = -4
    · rw [if_pos e]
      exact ⟨⟨fun z => by omega, fun z => absurd e (z n (by omega))⟩, by omega⟩
    · rw [if_neg e]
      refine ⟨⟨fun z r hr => ?_, fun z => h1.mpr (fun r hr => z r (by omega))⟩, h2⟩
      by_cases q : r = n
      · subst q; exact e
      · exact h1.mp z r (by omega)
theorem lg_gt (x y : Int64) : 0 < lg_cmp x y ↔ y < x := by
  have := lg_le x y
  rw [← Int32.not_le, this]
  exact Classical.not_not
theorem sp_OW {ns nl np ml nk nw : Nat} {pl fa fb sl pp pm ki fr tg wh bw : Nat → Nat} {rs sn : Nat → Int32} {fl : Nat → Bool} {qw : Nat → Nat → Nat → Nat → Bool} (hw : netW ns nl pl fa fb sl rs) (hv : viewW ns np ml nk pp pm ki fr tg wh sn) (hb : ∀ ki aw wh, tol bw qw ki aw wh nw ≤ 99) (hno : ∀ r, r < np → ¬ spc (spN ns nl np ml nk nw pl fa fb sl pp pm ki fr tg wh bw rs sn fl qw r) = -4) : OW (spN ns nl np ml nk nw pl fa fb sl pp pm ki fr tg wh bw rs sn fl qw) np := by
  intro p hp q hq
  have h1 := sp_W (p := p) (q := q) hw hv hb hq
  refine ⟨?_, h1⟩
  have h2 := hno p hp
  rw [hq, spc_4] at h2
  exact Int32.le_iff_toInt_le.mp (Int32.not_lt.mp h2)
theorem c_highest {l : Launch} {dp : Nat} {ns nl np ml nk nw : Nat} {pl fa fb sl pp pm ki fr tg wh bw : Nat → Nat} {rs sn : Nat → Int32} {fl : Nat → Bool} {qw : Nat → Nat → Nat → Nat → Bool} {I : hI} {J : hJ} {lt tx : Option Nat} {x w : Int32} {Q : hQ} (hG : cG I ns nl np ml nk nw pl fa fb sl pp pm ki fr tg wh bw rs sn fl qw) (hB : ¬ (isIx x np ∧ nI 0 ≤ w ∧ w ≤ nI 1) → Q (some (.long (-1))) hSH I J (hRR lt tx)) (h3 : ∀ p, x = nI p → p < np → spN ns nl np ml nk nw pl fa fb sl pp pm ki fr tg wh bw rs sn fl qw p = none → ∀ I', CO I I' → Q (some (.long (-3))) hSH I' J (hRR lt tx)) (h4 : ∀ p q, x = nI p → p < np → spN ns nl np ml nk nw pl fa fb sl pp pm ki fr tg wh bw rs sn fl qw p = some q → (¬ ∀ r, r < np → ¬ spc (spN ns nl np ml nk nw pl fa fb sl pp pm ki fr tg wh bw rs sn fl qw r) = -4) → ∀ I', CO I I' → Q (some (.long (-4))) hSH I' J (hRR lt tx)) (hO : ∀ p q, x = nI p → p < np → spN ns nl np ml nk nw pl fa fb sl pp pm ki fr tg wh bw rs sn fl qw p = some q → (∀ r, r < np → ¬ spc (spN ns nl np ml nk nw pl fa fb sl pp pm ki fr tg wh bw rs sn fl qw r) = -4) → ∀ I', CO I I' → (w = nI 0 → Q (some (.long (nL (sW (spN ns nl np ml nk nw pl fa fb sl pp pm ki fr tg wh bw rs sn fl qw) p np q.1.toInt (wd q) / Nat.gcd (sW (spN ns nl np ml nk nw pl fa fb sl pp pm ki fr tg wh bw rs sn fl qw) p np q.1.toInt (wd q)) (iA (spN ns nl np ml nk nw pl fa fb sl pp pm ki fr tg wh bw rs sn fl qw) np))))) hSH I' J (hRR lt tx)) ∧ (w = nI 1 → Q (some (.long (nL (iA (spN ns nl np ml nk nw pl fa fb sl pp pm ki fr tg wh bw rs sn fl qw) np / Nat.gcd (sW (spN ns nl np ml nk nw pl fa fb sl pp pm ki fr tg wh bw rs sn fl qw) p np q.1.toInt (wd q)) (iA (spN ns nl np ml nk nw pl fa fb sl pp pm ki fr tg wh bw rs sn fl qw) np))))) hSH I' J (hRR lt tx))) : HC l mX11_highest (dp + 7) 0 0 [.ref 0, .int x, .int w] hSH I J (hRR lt tx) Q := by
  refine HC.of (by decide +kernel) rfl (Nat.le_of_ble_eq_true rfl) ?_
  obtain ⟨⟨hN, hdo, hla, hlv⟩, hw, ⟨hnp, hml, hnk, hpt, hsi, hbt⟩, ⟨hn8, hm2, hn24, hpW, hsW⟩, hL⟩ := id hG
  obtain ⟨hns, hnl, hpl, hlg⟩ := id hN
  obtain ⟨hn6, hl12, hW, hp99, hr99⟩ := id hw
  by_cases e_0 : w = nI 0
  · subst e_0
    show HV l mX11_highest (dp + 7) 0 0 0 [some (.ref 0), some (.int x), some (.int (nI 0)), none, none, none, none, none, none, none] [] hSH I J (hRR lt tx) Q
    refine h_aload_n dX11_highest_0 rfl ?_
    refine h_iload_n dX11_highest_1 rfl ?_
    refine h_cV1 dX11_highest_2 k3_11 oVX11_isPoint rfl rfl ?_
    refine c_isPoint (n := np) hnp (by omega) (fun b1 => ?_) (fun b1 => ?_)
    · refine h_ifeq (tgt := 17) dX11_highest_5 rfl (fun c => absurd c (by decide)) (fun _ => ?_)
      refine h_iload_n dX11_highest_8 rfl ?_
      refine h_iconst dX11_highest_9 ci_0 ?_
      refine h_iconst dX11_highest_10 ci_1 ?_
      refine h_cS3 dX11_highest_11 k2_154 oSX11_within rfl ?_
      refine c_X11_within (fun b2 => ?_) (fun b2 => ?_)
      · obtain ⟨p, hp, rfl⟩ := b1
        refine h_ifne (tgt := 21) dX11_highest_14 rfl (fun _ => ?_) (fun c => absurd c (by decide))
        refine h_aload_n dX11_highest_21 rfl ?_
        refine h_getR dX11_highest_22 f_X11_10_9 rfl rfl ?_
        refine h_cV0 dX11_highest_25 k3_154 oVX10_measureAll rfl rfl ?_
        refine c_measureAll hG (fun g1 g2 g3 hal => ?_)
        obtain ⟨ct1, ct2⟩ := ctr_0 (f := fun r => spc (spN ns nl np ml nk nw pl fa fb sl pp pm ki fr tg wh bw rs sn fl qw r)) np
        have ct2 : ctr (fun p => spc (spG (inS nl fa fb sl fr tg fl p (-9)) (loK nl np ml nw pl fa fb sl pp pm ki fr tg wh bw rs sn qw) (hiK nl np ml nw pl fa fb sl pp pm ki fr tg wh bw rs sn qw) nk)) np ≤ 1 := ct2
        refine h_istore_n dX11_highest_28 (Nat.le_of_ble_eq_true rfl) ?_
        refine h_aload_n dX11_highest_29 rfl ?_
        refine h_getR dX11_highest_30 f_X11_10_9 rfl rfl ?_
        refine h_getR dX11_highest_33 f_X11_267_8 rfl rfl ?_
        refine h_iload_n dX11_highest_36 rfl ?_
        refine h_ialdN (j := p) dX11_highest_37 rfl rfl (by omega) rfl (hal p hp).2 ?_
        refine h_bipush dX11_highest_38 cb_m3 ?_
        refine h_icmpne (tgt := 47) dX11_highest_40 rfl (fun c_40 => ?_) (fun c_40 => ?_)
        · obtain ⟨q, hsq⟩ : ∃ q, spN ns nl np ml nk nw pl fa fb sl pp pm ki fr tg wh bw rs sn fl qw p = some q := by
            cases e : spN ns nl np ml nk nw pl fa fb sl pp pm ki fr tg wh bw rs sn fl qw p with
            | none => exact absurd (spc_3.mpr e) c_40
            | some q => exact ⟨q, rfl⟩
          refine h_iload_n dX11_highest_47 rfl ?_
          refine h_ifeq (tgt := 55) dX11_highest_48 rfl (fun c_48 => ?_) (fun c_48 => ?_)
          · rw [show (0 : Int32) = nI 0 from rfl, nI_eq (by omega) (by omega)] at c_48
            have hno := ct1.mp c_48
            have hOW := sp_OW (fl := fl) hw ⟨hn8, hm2, hn24, hpW, hsW⟩ (fun _ _ _ => cL_le hL) hno
            have hWb := sW_b hOW hn8 hp (lo := q.1.toInt) (wd q)
            obtain ⟨-, hwq, -⟩ := hOW p hp q hsq
            have hw135 : wd q ≤ 135 := by unfold wd; omega
            obtain ⟨hA1, hA2⟩ := iA_b hOW np (by omega)
            have hA3 := p135 hn8
            have hWc : sW (spN ns nl np ml nk nw pl fa fb sl pp pm ki fr tg wh bw rs sn fl qw) p np q.1.toInt (wd q) ≤ 135 * 817215093984375 := Nat.le_trans hWb (Nat.mul_le_mul_right _ hw135)
            have hg1 : 0 < Nat.gcd (sW (spN ns nl np ml nk nw pl fa fb sl pp pm ki fr tg wh bw rs sn fl qw) p np q.1.toInt (wd q)) (iA (spN ns nl np ml nk nw pl fa fb sl pp pm ki fr tg wh bw rs sn fl qw) np) := Nat.gcd_pos_of_pos_right _ (by omega)
            have hg2 : Nat.gcd (sW (spN ns nl np ml nk nw pl fa fb sl pp pm ki fr tg wh bw rs sn fl qw) p np q.1.toInt (wd q)) (iA (spN ns nl np ml nk nw pl fa fb sl pp pm ki fr tg wh bw rs sn fl qw) np) ≤ iA (spN ns nl np ml nk nw pl fa fb sl pp pm ki fr tg wh bw rs sn fl qw) np := Nat.gcd_le_right _ (by omega)
            refine h_aload_n dX11_highest_55 rfl ?_
            refine h_getR dX11_highest_56 f_X11_10_9 rfl rfl ?_
            refine h_iload_n dX11_highest_59 rfl ?_
            refine h_cV1 dX11_highest_60 k3_169 oVX10_waysHighest rfl rfl ?_
            refine c_waysHighest (O := spN ns nl np ml nk nw pl fa fb sl pp pm ki fr tg wh bw rs sn fl qw) (I := (upA (upA (upA I 25 g1) 26 g2) 27 g3)) (x := p) (qx := q) hnp hn8 hal hOW hp hsq ?_
            refine h_lstore dX11_highest_63 (Nat.le_of_ble_eq_true rfl) ?_
            refine h_aload_n dX11_highest_65 rfl ?_
            refine h_getR dX11_highest_66 f_X11_10_9 rfl rfl ?_
            refine h_cV0 dX11_highest_69 k3_177 oVX10_waysInAll rfl rfl ?_
            refine c_waysInAll (O := spN ns nl np ml nk nw pl fa fb sl pp pm ki fr tg wh bw rs sn fl qw) (I := (upA (upA (upA I 25 g1) 26 g2) 27 g3)) hnp hn8 hal hOW ?_
            refine h_lstore dX11_highest_72 (Nat.le_of_ble_eq_true rfl) ?_
            refine h_lload dX11_highest_74 rfl ?_
            refine h_lload dX11_highest_76 rfl ?_
            refine h_cS2 dX11_highest_78 k3_181 oSX11_sharedDivisor rfl ?_
            refine c_sharedDivisor (a := sW (spN ns nl np ml nk nw pl fa fb sl pp pm ki fr tg wh bw rs sn fl qw) p np q.1.toInt (wd q)) (b := iA (spN ns nl np ml nk nw pl fa fb sl pp pm ki fr tg wh bw rs sn fl qw) np) (by omega) (by omega) ?_
            refine h_lstore dX11_highest_81 (Nat.le_of_ble_eq_true rfl) ?_
            refine h_lload dX11_highest_83 rfl ?_
            refine h_lconst (v := 0) dX11_highest_85 rfl ?_
            refine h_lcmp dX11_highest_86 ?_
            refine h_ifgt (tgt := 94) dX11_highest_87 rfl (fun c_87 => ?_) (fun c_87 => ?_)
            · refine h_iload_n dX11_highest_94 rfl ?_
              refine h_ifne (tgt := 106) dX11_highest_95 rfl (fun c => absurd (by decide) c) (fun _ => ?_)
              refine h_lload dX11_highest_98 rfl ?_
              refine h_lload dX11_highest_100 rfl ?_
              refine h_ldiv dX11_highest_102 (fun z => absurd ((nL_eq (b := 0) (by omega) (by omega)).mp z) (by omega)) ?_
              refine h_goto (tgt := 111) dX11_highest_103 rfl ?_
              refine h_lreturn dX11_highest_111 rfl ?_
              rw [nL_div (by omega) (by omega) hg1]
              exact (hO p q rfl hp hsq hno _ (CO_3 I g1 g2 g3)).1 rfl
            · exact absurd ((lg_gt _ _).mpr ((nL_lt (a := 0) (by omega) (by omega)).mpr hg1)) c_87
          · rw [show (0 : Int32) = nI 0 from rfl, nI_eq (by omega) (by omega)] at c_48
            refine h_ldc2 dX11_highest_51 k3_168 ?_
            refine h_lreturn dX11_highest_54 rfl ?_
            exact h4 p q rfl hp hsq (fun z => c_48 (ct1.mpr z)) _ (CO_3 I g1 g2 g3)
        · refine h_ldc2 dX11_highest_43 k3_167 ?_
          refine h_lreturn dX11_highest_46 rfl ?_
          exact h3 p rfl hp (spc_3.mp c_40) _ (CO_3 I g1 g2 g3)
      · exact absurd (by decide) b2
    · refine h_ifeq (tgt := 17) dX11_highest_5 rfl (fun _ => ?_) (fun c => absurd (by decide) c)
      refine h_ldc2 dX11_highest_17 k3_166 ?_
      refine h_lreturn dX11_highest_20 rfl ?_
      exact hB (fun z => b1 z.1)
  by_cases e_1 : w = nI 1
  · subst e_1
    show HV l mX11_highest (dp + 7) 0 0 0 [some (.ref 0), some (.int x), some (.int (nI 1)), none, none, none, none, none, none, none] [] hSH I J (hRR lt tx) Q
    refine h_aload_n dX11_highest_0 rfl ?_
    refine h_iload_n dX11_highest_1 rfl ?_
    refine h_cV1 dX11_highest_2 k3_11 oVX11_isPoint rfl rfl ?_
    refine c_isPoint (n := np) hnp (by omega) (fun b1 => ?_) (fun b1 => ?_)
    · refine h_ifeq (tgt := 17) dX11_highest_5 rfl (fun c => absurd c (by decide)) (fun _ => ?_)
      refine h_iload_n dX11_highest_8 rfl ?_
      refine h_iconst dX11_highest_9 ci_0 ?_
      refine h_iconst dX11_highest_10 ci_1 ?_
      refine h_cS3 dX11_highest_11 k2_154 oSX11_within rfl ?_
      refine c_X11_within (fun b2 => ?_) (fun b2 => ?_)
      · obtain ⟨p, hp, rfl⟩ := b1
        refine h_ifne (tgt := 21) dX11_highest_14 rfl (fun _ => ?_) (fun c => absurd c (by decide))
        refine h_aload_n dX11_highest_21 rfl ?_
        refine h_getR dX11_highest_22 f_X11_10_9 rfl rfl ?_
        refine h_cV0 dX11_highest_25 k3_154 oVX10_measureAll rfl rfl ?_
        refine c_measureAll hG (fun g1 g2 g3 hal => ?_)
        obtain ⟨ct1, ct2⟩ := ctr_0 (f := fun r => spc (spN ns nl np ml nk nw pl fa fb sl pp pm ki fr tg wh bw rs sn fl qw r)) np
        have ct2 : ctr (fun p => spc (spG (inS nl fa fb sl fr tg fl p (-9)) (loK nl np ml nw pl fa fb sl pp pm ki fr tg wh bw rs sn qw) (hiK nl np ml nw pl fa fb sl pp pm ki fr tg wh bw rs sn qw) nk)) np ≤ 1 := ct2
        refine h_istore_n dX11_highest_28 (Nat.le_of_ble_eq_true rfl) ?_
        refine h_aload_n dX11_highest_29 rfl ?_
        refine h_getR dX11_highest_30 f_X11_10_9 rfl rfl ?_
        refine h_getR dX11_highest_33 f_X11_267_8 rfl rfl ?_
        refine h_iload_n dX11_highest_36 rfl ?_
        refine h_ialdN (j := p) dX11_highest_37 rfl rfl (by omega) rfl (hal p hp).2 ?_
        refine h_bipush dX11_highest_38 cb_m3 ?_
        refine h_icmpne (tgt := 47) dX11_highest_40 rfl (fun c_40 => ?_) (fun c_40 => ?_)
        · obtain ⟨q, hsq⟩ : ∃ q, spN ns nl np ml nk nw pl fa fb sl pp pm ki fr tg wh bw rs sn fl qw p = some q := by
            cases e : spN ns nl np ml nk nw pl fa fb sl pp pm ki fr tg wh bw rs sn fl qw p with
            | none => exact absurd (spc_3.mpr e) c_40
            | some q => exact ⟨q, rfl⟩
          refine h_iload_n dX11_highest_47 rfl ?_
          refine h_ifeq (tgt := 55) dX11_highest_48 rfl (fun c_48 => ?_) (fun c_48 => ?_)
          · rw [show (0 : Int32) = nI 0 from rfl, nI_eq (by omega) (by omega)] at c_48
            have hno := ct1.mp c_48
            have hOW := sp_OW (fl := fl) hw ⟨hn8, hm2, hn24, hpW, hsW⟩ (fun _ _ _ => cL_le hL) hno
            have hWb := sW_b hOW hn8 hp (lo := q.1.toInt) (wd q)
            obtain ⟨-, hwq, -⟩ := hOW p hp q hsq
            have hw135 : wd q ≤ 135 := by unfold wd; omega
            obtain ⟨hA1, hA2⟩ := iA_b hOW np (by omega)
            have hA3 := p135 hn8
            have hWc : sW (spN ns nl np ml nk nw pl fa fb sl pp pm ki fr tg wh bw rs sn fl qw) p np q.1.toInt (wd q) ≤ 135 * 817215093984375 := Nat.le_trans hWb (Nat.mul_le_mul_right _ hw135)
            have hg1 : 0 < Nat.gcd (sW (spN ns nl np ml nk nw pl fa fb sl pp pm ki fr tg wh bw rs sn fl qw) p np q.1.toInt (wd q)) (iA (spN ns nl np ml nk nw pl fa fb sl pp pm ki fr tg wh bw rs sn fl qw) np) := Nat.gcd_pos_of_pos_right _ (by omega)
            have hg2 : Nat.gcd (sW (spN ns nl np ml nk nw pl fa fb sl pp pm ki fr tg wh bw rs sn fl qw) p np q.1.toInt (wd q)) (iA (spN ns nl np ml nk nw pl fa fb sl pp pm ki fr tg wh bw rs sn fl qw) np) ≤ iA (spN ns nl np ml nk nw pl fa fb sl pp pm ki fr tg wh bw rs sn fl qw) np := Nat.gcd_le_right _ (by omega)
            refine h_aload_n dX11_highest_55 rfl ?_
            refine h_getR dX11_highest_56 f_X11_10_9 rfl rfl ?_
            refine h_iload_n dX11_highest_59 rfl ?_
            refine h_cV1 dX11_highest_60 k3_169 oVX10_waysHighest rfl rfl ?_
            refine c_waysHighest (O := spN ns nl np ml nk nw pl fa fb sl pp pm ki fr tg wh bw rs sn fl qw) (I := (upA (upA (upA I 25 g1) 26 g2) 27 g3)) (x := p) (qx := q) hnp hn8 hal hOW hp hsq ?_
            refine h_lstore dX11_highest_63 (Nat.le_of_ble_eq_true rfl) ?_
            refine h_aload_n dX11_highest_65 rfl ?_
            refine h_getR dX11_highest_66 f_X11_10_9 rfl rfl ?_
            refine h_cV0 dX11_highest_69 k3_177 oVX10_waysInAll rfl rfl ?_
            refine c_waysInAll (O := spN ns nl np ml nk nw pl fa fb sl pp pm ki fr tg wh bw rs sn fl qw) (I := (upA (upA (upA I 25 g1) 26 g2) 27 g3)) hnp hn8 hal hOW ?_
            refine h_lstore dX11_highest_72 (Nat.le_of_ble_eq_true rfl) ?_
            refine h_lload dX11_highest_74 rfl ?_
            refine h_lload dX11_highest_76 rfl ?_
            refine h_cS2 dX11_highest_78 k3_181 oSX11_sharedDivisor rfl ?_
            refine c_sharedDivisor (a := sW (spN ns nl np ml nk nw pl fa fb sl pp pm ki fr tg wh bw rs sn fl qw) p np q.1.toInt (wd q)) (b := iA (spN ns nl np ml nk nw pl fa fb sl pp pm ki fr tg wh bw rs sn fl qw) np) (by omega) (by omega) ?_
            refine h_lstore dX11_highest_81 (Nat.le_of_ble_eq_true rfl) ?_
            refine h_lload dX11_highest_83 rfl ?_
            refine h_lconst (v := 0) dX11_highest_85 rfl ?_
            refine h_lcmp dX11_highest_86 ?_
            refine h_ifgt (tgt := 94) dX11_highest_87 rfl (fun c_87 => ?_) (fun c_87 => ?_)
            · refine h_iload_n dX11_highest_94 rfl ?_
              refine h_ifne (tgt := 106) dX11_highest_95 rfl (fun _ => ?_) (fun c => absurd c (by decide))
              refine h_lload dX11_highest_106 rfl ?_
              refine h_lload dX11_highest_108 rfl ?_
              refine h_ldiv dX11_highest_110 (fun z => absurd ((nL_eq (b := 0) (by omega) (by omega)).mp z) (by omega)) ?_
              refine h_lreturn dX11_highest_111 rfl ?_
              rw [nL_div (by omega) (by omega) hg1]
              exact (hO p q rfl hp hsq hno _ (CO_3 I g1 g2 g3)).2 rfl
            · exact absurd ((lg_gt _ _).mpr ((nL_lt (a := 0) (by omega) (by omega)).mpr hg1)) c_87
          · rw [show (0 : Int32) = nI 0 from rfl, nI_eq (by omega) (by omega)] at c_48
            refine h_ldc2 dX11_highest_51 k3_168 ?_
            refine h_lreturn dX11_highest_54 rfl ?_
            exact h4 p q rfl hp hsq (fun z => c_48 (ct1.mpr z)) _ (CO_3 I g1 g2 g3)
        · refine h_ldc2 dX11_highest_43 k3_167 ?_
          refine h_lreturn dX11_highest_46 rfl ?_
          exact h3 p rfl hp (spc_3.mp c_40) _ (CO_3 I g1 g2 g3)
      · exact absurd (by decide) b2
    · refine h_ifeq (tgt := 17) dX11_highest_5 rfl (fun _ => ?_) (fun c => absurd (by decide) c)
      refine h_ldc2 dX11_highest_17 k3_166 ?_
      refine h_lreturn dX11_highest_20 rfl ?_
      exact hB (fun z => b1 z.1)
  show HV l mX11_highest (dp + 7) 0 0 0 [some (.ref 0), some (.int x), some (.int w), none, none, none, none, none, none, none] [] hSH I J (hRR lt tx) Q
  refine h_aload_n dX11_highest_0 rfl ?_
  refine h_iload_n dX11_highest_1 rfl ?_
  refine h_cV1 dX11_highest_2 k3_11 oVX11_isPoint rfl rfl ?_
  refine c_isPoint (n := np) hnp (by omega) (fun b1 => ?_) (fun b1 => ?_)
  · refine h_ifeq (tgt := 17) dX11_highest_5 rfl (fun c => absurd c (by decide)) (fun _ => ?_)
    refine h_iload_n dX11_highest_8 rfl ?_
    refine h_iconst dX11_highest_9 ci_0 ?_
    refine h_iconst dX11_highest_10 ci_1 ?_
    refine h_cS3 dX11_highest_11 k2_154 oSX11_within rfl ?_
    refine c_X11_within (fun b2 => ?_) (fun b2 => ?_)
    · exfalso
      obtain ⟨wn, rfl, hw1, hw9⟩ := rng_ex (by omega) (by omega) b2.1 b2.2
      rcases (show wn = 0 ∨ wn = 1 by omega) with rfl | rfl
      · exact e_0 rfl
      · exact e_1 rfl
    · refine h_ifne (tgt := 21) dX11_highest_14 rfl (fun c => absurd (by decide) c) (fun _ => ?_)
      refine h_ldc2 dX11_highest_17 k3_166 ?_
      refine h_lreturn dX11_highest_20 rfl ?_
      exact hB (fun z => b2 z.2)
  · refine h_ifeq (tgt := 17) dX11_highest_5 rfl (fun _ => ?_) (fun c => absurd (by decide) c)
    refine h_ldc2 dX11_highest_17 k3_166 ?_
    refine h_lreturn dX11_highest_20 rfl ?_
    exact hB (fun z => b1 z.1)
