def tkOk (x w : Int32) : Prop := sh4 x ∧ ((nI 0 ≤ w ∧ w ≤ nI 6) ∨ (nI 10 ≤ w ∧ w ≤ nI 13))
/-- no thing on the shelf -/
def noT (nk np : Nat) (sk : Nat → Nat) (sm : Nat → Int32) (s : Nat) : Prop := sk s = 3 ∨ (sk s = 0 ∧ ¬ isIx (sm s) nk) ∨ (sk s = 1 ∧ ¬ isIx (sm s) np)
theorem und_big {a : Nat} {w : Int32} (h : undP (nI a) w) (ha : a ≤ 6) (hw : nI 10 ≤ w) : False := by
  have q := Int32.le_iff_toInt_le.mp hw
  rw [nI_toInt (by omega)] at q
  have n0 : ¬ w = nI 0 := fun z => by rw [z, nI_toInt (by omega)] at q; omega
  have n1 : ¬ w = nI 1 := fun z => by rw [z, nI_toInt (by omega)] at q; omega
  have n2 : ¬ w = nI 2 := fun z => by rw [z, nI_toInt (by omega)] at q; omega
  unfold undP at h
  rw [if_neg n0, if_neg n1, if_neg n2] at h
  rw [← h, nI_toInt (by omega)] at q
  omega
theorem sm_10 {x : Int32} (h : ∃ k, k ≤ 3 ∧ x = nI k) : ¬ nI 10 + x = -11 := by
  obtain ⟨k, h1, rfl⟩ := h
  rw [nI_add]
  exact nI_ne_neg (by omega) (by decide)
theorem c_taken {l : Launch} {dp : Nat} {ns nl np ml nk nw : Nat} {pl fa fb sl pp pm ki fr tg wh bw : Nat → Nat} {rs sn : Nat → Int32} {fl : Nat → Bool} {qw : Nat → Nat → Nat → Nat → Bool} {I : hI} {J : hJ} {lt tx : Option Nat} {sk : Nat → Nat} {sm sz : Nat → Int32} {x w : Int32} {Q : hQ} (hG : cG I ns nl np ml nk nw pl fa fb sl pp pm ki fr tg wh bw rs sn fl qw) (hH : cH I sk sm sz) (hB : ¬ tkOk x w → Q (some (.int (-1))) hSH I J (hRR lt tx)) (hN0 : ∀ s, x = nI s → s < 4 → tkOk x w → noT nk np sk sm s → Q (some (.int (-11))) hSH I J (hRR lt tx)) (hK : ∀ s k, x = nI s → s < 4 → tkOk x w → k < nk → sk s = 0 → sm s = nI k → (undP (nI (ki k)) w → Q (some (.int (sm s))) hSH I J (hRR lt tx)) ∧ (¬ undP (nI (ki k)) w → Q (some (.int (-13))) hSH I J (hRR lt tx))) (hPt : ∀ s p, x = nI s → s < 4 → tkOk x w → p < np → sk s = 1 → sm s = nI p → (undP (nI 6) w → Q (some (.int (sm s))) hSH I J (hRR lt tx)) ∧ (¬ undP (nI 6) w → Q (some (.int (-13))) hSH I J (hRR lt tx))) (hRo : ∀ s, x = nI s → s < 4 → tkOk x w → sk s = 2 → (undP (nI 10 + sm s) w → (¬ (nI 0 ≤ w ∧ w ≤ nI 6) → Q (some (.int (sz s))) hSH I J (hRR lt tx)) ∧ ((nI 0 ≤ w ∧ w ≤ nI 6) → Q (some (.int (sm s))) hSH I J (hRR lt tx))) ∧ (¬ undP (nI 10 + sm s) w → Q (some (.int (-13))) hSH I J (hRR lt tx))) : HC l mX11_taken (dp + 3) 0 0 [.ref 0, .int x, .int w] hSH I J (hRR lt tx) Q := by
  refine HC.of (by decide +kernel) rfl (Nat.le_of_ble_eq_true rfl) ?_
  show HV l mX11_taken (dp + 3) 0 0 0 [some (.ref 0), some (.int x), some (.int w), none, none] [] hSH I J (hRR lt tx) Q
  obtain ⟨⟨hN, hdo, hla, hlv⟩, hw, ⟨hnp, hml, hnk, hpt, hsi, hbt⟩, ⟨hn8, hm2, hn24, hpW, hsW⟩, hL⟩ := id hG
  obtain ⟨hns, hnl, hpl, hlg⟩ := id hN
  obtain ⟨hn6, hl12, hW, hp99, hr99⟩ := id hw
  refine h_iload_n dX11_taken_0 rfl ?_
  refine h_iconst dX11_taken_1 ci_0 ?_
  refine h_bipush dX11_taken_2 cb_6 ?_
  refine h_cS3 dX11_taken_4 k2_126 oSX11_within rfl ?_
  refine c_X11_within (fun b0 => ?_) (fun b0 => ?_)
  · refine h_istore_n dX11_taken_7 (Nat.le_of_ble_eq_true rfl) ?_
    refine h_iload_n dX11_taken_8 rfl ?_
    refine h_cS1 dX11_taken_9 k4_44 oSX11_isShelf rfl ?_
    refine c_X11_isShelf (fun b1 => ?_) (fun b1 => ?_)
    · obtain ⟨s, hxs, -, hs3⟩ := rng_ex (by omega) (by omega) b1.1 b1.2
      obtain ⟨w1, w2, w3, w4⟩ := hH s (by omega)
      subst hxs
      refine h_ifeq (tgt := 30) dX11_taken_12 rfl (fun c => absurd c (by decide)) (fun _ => ?_)
      refine h_iload_n dX11_taken_15 rfl ?_
      refine h_ifne (tgt := 32) dX11_taken_16 rfl (fun _ => ?_) (fun c => absurd c (by decide))
      refine h_aload_n dX11_taken_32 rfl ?_
      refine h_iload_n dX11_taken_33 rfl ?_
      refine h_cV1 dX11_taken_34 k4_55 oVX11_kindOn rfl rfl ?_
      have hok : tkOk (nI s) w := ⟨b1, by first | exact .inl b0 | exact .inr b2⟩
      refine c_kindOn hG hH (by omega) (fun e0 => ?_) (fun k hk e0 e9 => ?_) (fun p hp e0 e9 => ?_) (fun e0 => ?_)
      · refine h_istore dX11_taken_37 (Nat.le_of_ble_eq_true rfl) ?_
        refine h_iload dX11_taken_39 rfl ?_
        refine h_bipush dX11_taken_41 cb_m11 ?_
        refine h_icmpne (tgt := 49) dX11_taken_43 rfl (fun c => absurd (by decide) c) (fun _ => ?_)
        refine h_bipush dX11_taken_46 cb_m11 ?_
        refine h_ireturn dX11_taken_48 rfl ?_
        exact hN0 s rfl (by omega) hok e0
      · have hkk := hsW k hk
        refine h_istore dX11_taken_37 (Nat.le_of_ble_eq_true rfl) ?_
        refine h_iload dX11_taken_39 rfl ?_
        refine h_bipush dX11_taken_41 cb_m11 ?_
        refine h_icmpne (tgt := 49) dX11_taken_43 rfl (fun c_43 => ?_) (fun c_43 => ?_)
        · refine h_iload dX11_taken_49 rfl ?_
          refine h_iload_n dX11_taken_51 rfl ?_
          refine h_cS2 dX11_taken_52 k4_59 oSX11_isUnder rfl ?_
          refine c_isUnder (fun b3 => ?_) (fun b3 => ?_)
          · refine h_ifne (tgt := 61) dX11_taken_55 rfl (fun _ => ?_) (fun c => absurd c (by decide))
            refine h_iload_n dX11_taken_61 rfl ?_
            refine h_ifeq (tgt := 74) dX11_taken_62 rfl (fun c => absurd c (by decide)) (fun _ => ?_)
            refine h_aload_n dX11_taken_65 rfl ?_
            refine h_getR dX11_taken_66 f_X11_67_9 rfl rfl ?_
            refine h_iload_n dX11_taken_69 rfl ?_
            refine h_ialdN (j := s) dX11_taken_70 rfl rfl (by omega) rfl (w3 (by omega)) ?_
            refine h_goto (tgt := 80) dX11_taken_71 rfl ?_
            refine h_ireturn dX11_taken_80 rfl ?_
            exact (hK s k rfl (by omega) hok hk e0 e9).1 b3
          · refine h_ifne (tgt := 61) dX11_taken_55 rfl (fun c => absurd (by decide) c) (fun _ => ?_)
            refine h_bipush dX11_taken_58 cb_m13 ?_
            refine h_ireturn dX11_taken_60 rfl ?_
            exact (hK s k rfl (by omega) hok hk e0 e9).2 b3
        · exact absurd c_43 (nI_ne_neg (by omega) (by decide))
      · refine h_istore dX11_taken_37 (Nat.le_of_ble_eq_true rfl) ?_
        refine h_iload dX11_taken_39 rfl ?_
        refine h_bipush dX11_taken_41 cb_m11 ?_
        refine h_icmpne (tgt := 49) dX11_taken_43 rfl (fun _ => ?_) (fun c => absurd c (by decide))
        refine h_iload dX11_taken_49 rfl ?_
        refine h_iload_n dX11_taken_51 rfl ?_
        refine h_cS2 dX11_taken_52 k4_59 oSX11_isUnder rfl ?_
        refine c_isUnder (fun b3 => ?_) (fun b3 => ?_)
        · refine h_ifne (tgt := 61) dX11_taken_55 rfl (fun _ => ?_) (fun c => absurd c (by decide))
          refine h_iload_n dX11_taken_61 rfl ?_
          refine h_ifeq (tgt := 74) dX11_taken_62 rfl (fun c => absurd c (by decide)) (fun _ => ?_)
          refine h_aload_n dX11_taken_65 rfl ?_
          refine h_getR dX11_taken_66 f_X11_67_9 rfl rfl ?_
          refine h_iload_n dX11_taken_69 rfl ?_
          refine h_ialdN (j := s) dX11_taken_70 rfl rfl (by omega) rfl (w3 (by omega)) ?_
          refine h_goto (tgt := 80) dX11_taken_71 rfl ?_
          refine h_ireturn dX11_taken_80 rfl ?_
          exact (hPt s p rfl (by omega) hok hp e0 e9).1 b3
        · refine h_ifne (tgt := 61) dX11_taken_55 rfl (fun c => absurd (by decide) c) (fun _ => ?_)
          refine h_bipush dX11_taken_58 cb_m13 ?_
          refine h_ireturn dX11_taken_60 rfl ?_
          exact (hPt s p rfl (by omega) hok hp e0 e9).2 b3
      · refine h_istore dX11_taken_37 (Nat.le_of_ble_eq_true rfl) ?_
        refine h_iload dX11_taken_39 rfl ?_
        refine h_bipush dX11_taken_41 cb_m11 ?_
        refine h_icmpne (tgt := 49) dX11_taken_43 rfl (fun c_43 => ?_) (fun c_43 => ?_)
        · refine h_iload dX11_taken_49 rfl ?_
          refine h_iload_n dX11_taken_51 rfl ?_
          refine h_cS2 dX11_taken_52 k4_59 oSX11_isUnder rfl ?_
          refine c_isUnder (fun b3 => ?_) (fun b3 => ?_)
          · refine h_ifne (tgt := 61) dX11_taken_55 rfl (fun _ => ?_) (fun c => absurd c (by decide))
            refine h_iload_n dX11_taken_61 rfl ?_
            refine h_ifeq (tgt := 74) dX11_taken_62 rfl (fun c => absurd c (by decide)) (fun _ => ?_)
            refine h_aload_n dX11_taken_65 rfl ?_
            refine h_getR dX11_taken_66 f_X11_67_9 rfl rfl ?_
            refine h_iload_n dX11_taken_69 rfl ?_
            refine h_ialdN (j := s) dX11_taken_70 rfl rfl (by omega) rfl (w3 (by omega)) ?_
            refine h_goto (tgt := 80) dX11_taken_71 rfl ?_
            refine h_ireturn dX11_taken_80 rfl ?_
            exact ((hRo s rfl (by omega) hok e0).1 b3).2 b0
          · refine h_ifne (tgt := 61) dX11_taken_55 rfl (fun c => absurd (by decide) c) (fun _ => ?_)
            refine h_bipush dX11_taken_58 cb_m13 ?_
            refine h_ireturn dX11_taken_60 rfl ?_
            exact (hRo s rfl (by omega) hok e0).2 b3
        · exact absurd c_43 (sm_10 (w4 e0).2)
    · refine h_ifeq (tgt := 30) dX11_taken_12 rfl (fun _ => ?_) (fun c => absurd (by decide) c)
      refine h_iconst dX11_taken_30 ci_m1 ?_
      refine h_ireturn dX11_taken_31 rfl ?_
      exact hB (fun z => b1 z.1)
  · refine h_istore_n dX11_taken_7 (Nat.le_of_ble_eq_true rfl) ?_
    refine h_iload_n dX11_taken_8 rfl ?_
    refine h_cS1 dX11_taken_9 k4_44 oSX11_isShelf rfl ?_
    refine c_X11_isShelf (fun b1 => ?_) (fun b1 => ?_)
    · obtain ⟨s, hxs, -, hs3⟩ := rng_ex (by omega) (by omega) b1.1 b1.2
      obtain ⟨w1, w2, w3, w4⟩ := hH s (by omega)
      subst hxs
      refine h_ifeq (tgt := 30) dX11_taken_12 rfl (fun c => absurd c (by decide)) (fun _ => ?_)
      refine h_iload_n dX11_taken_15 rfl ?_
      refine h_ifne (tgt := 32) dX11_taken_16 rfl (fun c => absurd (by decide) c) (fun _ => ?_)
      refine h_iload_n dX11_taken_19 rfl ?_
      refine h_bipush dX11_taken_20 cb_10 ?_
      refine h_bipush dX11_taken_22 cb_13 ?_
      refine h_cS3 dX11_taken_24 k2_126 oSX11_within rfl ?_
      refine c_X11_within (fun b2 => ?_) (fun b2 => ?_)
      · refine h_ifne (tgt := 32) dX11_taken_27 rfl (fun _ => ?_) (fun c => absurd c (by decide))
        refine h_aload_n dX11_taken_32 rfl ?_
        refine h_iload_n dX11_taken_33 rfl ?_
        refine h_cV1 dX11_taken_34 k4_55 oVX11_kindOn rfl rfl ?_
        have hok : tkOk (nI s) w := ⟨b1, by first | exact .inl b0 | exact .inr b2⟩
        refine c_kindOn hG hH (by omega) (fun e0 => ?_) (fun k hk e0 e9 => ?_) (fun p hp e0 e9 => ?_) (fun e0 => ?_)
        · refine h_istore dX11_taken_37 (Nat.le_of_ble_eq_true rfl) ?_
          refine h_iload dX11_taken_39 rfl ?_
          refine h_bipush dX11_taken_41 cb_m11 ?_
          refine h_icmpne (tgt := 49) dX11_taken_43 rfl (fun c => absurd (by decide) c) (fun _ => ?_)
          refine h_bipush dX11_taken_46 cb_m11 ?_
          refine h_ireturn dX11_taken_48 rfl ?_
          exact hN0 s rfl (by omega) hok e0
        · have hkk := hsW k hk
          refine h_istore dX11_taken_37 (Nat.le_of_ble_eq_true rfl) ?_
          refine h_iload dX11_taken_39 rfl ?_
          refine h_bipush dX11_taken_41 cb_m11 ?_
          refine h_icmpne (tgt := 49) dX11_taken_43 rfl (fun c_43 => ?_) (fun c_43 => ?_)
          · refine h_iload dX11_taken_49 rfl ?_
            refine h_iload_n dX11_taken_51 rfl ?_
            refine h_cS2 dX11_taken_52 k4_59 oSX11_isUnder rfl ?_
            refine c_isUnder (fun b3 => ?_) (fun b3 => ?_)
            · refine h_ifne (tgt := 61) dX11_taken_55 rfl (fun _ => ?_) (fun c => absurd c (by decide))
              refine h_iload_n dX11_taken_61 rfl ?_
              refine h_ifeq (tgt := 74) dX11_taken_62 rfl (fun _ => ?_) (fun c => absurd (by decide) c)
              refine h_aload_n dX11_taken_74 rfl ?_
              refine h_getR dX11_taken_75 f_X11_70_9 rfl rfl ?_
              refine h_iload_n dX11_taken_78 rfl ?_
              refine h_ialdN (j := s) dX11_taken_79 rfl rfl (by omega) rfl rfl ?_
              refine h_ireturn dX11_taken_80 rfl ?_
              exact (und_big b3 (by omega) b2.1).elim
            · refine h_ifne (tgt := 61) dX11_taken_55 rfl (fun c => absurd (by decide) c) (fun _ => ?_)
              refine h_bipush dX11_taken_58 cb_m13 ?_
              refine h_ireturn dX11_taken_60 rfl ?_
              exact (hK s k rfl (by omega) hok hk e0 e9).2 b3
          · exact absurd c_43 (nI_ne_neg (by omega) (by decide))
        · refine h_istore dX11_taken_37 (Nat.le_of_ble_eq_true rfl) ?_
          refine h_iload dX11_taken_39 rfl ?_
          refine h_bipush dX11_taken_41 cb_m11 ?_
          refine h_icmpne (tgt := 49) dX11_taken_43 rfl (fun _ => ?_) (fun c => absurd c (by decide))
          refine h_iload dX11_taken_49 rfl ?_
          refine h_iload_n dX11_taken_51 rfl ?_
          refine h_cS2 dX11_taken_52 k4_59 oSX11_isUnder rfl ?_
          refine c_isUnder (fun b3 => ?_) (fun b3 => ?_)
          · refine h_ifne (tgt := 61) dX11_taken_55 rfl (fun _ => ?_) (fun c => absurd c (by decide))
            refine h_iload_n dX11_taken_61 rfl ?_
            refine h_ifeq (tgt := 74) dX11_taken_62 rfl (fun _ => ?_) (fun c => absurd (by decide) c)
            refine h_aload_n dX11_taken_74 rfl ?_
            refine h_getR dX11_taken_75 f_X11_70_9 rfl rfl ?_
            refine h_iload_n dX11_taken_78 rfl ?_
            refine h_ialdN (j := s) dX11_taken_79 rfl rfl (by omega) rfl rfl ?_
            refine h_ireturn dX11_taken_80 rfl ?_
            exact (und_big b3 (by omega) b2.1).elim
          · refine h_ifne (tgt := 61) dX11_taken_55 rfl (fun c => absurd (by decide) c) (fun _ => ?_)
            refine h_bipush dX11_taken_58 cb_m13 ?_
            refine h_ireturn dX11_taken_60 rfl ?_
            exact (hPt s p rfl (by omega) hok hp e0 e9).2 b3
        · refine h_istore dX11_taken_37 (Nat.le_of_ble_eq_true rfl) ?_
          refine h_iload dX11_taken_39 rfl ?_
          refine h_bipush dX11_taken_41 cb_m11 ?_
          refine h_icmpne (tgt := 49) dX11_taken_43 rfl (fun c_43 => ?_) (fun c_43 => ?_)
          · refine h_iload dX11_taken_49 rfl ?_
            refine h_iload_n dX11_taken_51 rfl ?_
            refine h_cS2 dX11_taken_52 k4_59 oSX11_isUnder rfl ?_
            refine c_isUnder (fun b3 => ?_) (fun b3 => ?_)
            · refine h_ifne (tgt := 61) dX11_taken_55 rfl (fun _ => ?_) (fun c => absurd c (by decide))
              refine h_iload_n dX11_taken_61 rfl ?_
              refine h_ifeq (tgt := 74) dX11_taken_62 rfl (fun _ => ?_) (fun c => absurd (by decide) c)
              refine h_aload_n dX11_taken_74 rfl ?_
              refine h_getR dX11_taken_75 f_X11_70_9 rfl rfl ?_
              refine h_iload_n dX11_taken_78 rfl ?_
              refine h_ialdN (j := s) dX11_taken_79 rfl rfl (by omega) rfl rfl ?_
              refine h_ireturn dX11_taken_80 rfl ?_
              rw [(w4 e0).1]
              exact ((hRo s rfl (by omega) hok e0).1 b3).1 b0
            · refine h_ifne (tgt := 61) dX11_taken_55 rfl (fun c => absurd (by decide) c) (fun _ => ?_)
              refine h_bipush dX11_taken_58 cb_m13 ?_
              refine h_ireturn dX11_taken_60 rfl ?_
              exact (hRo s rfl (by omega) hok e0).2 b3
          · exact absurd c_43 (sm_10 (w4 e0).2)
      · refine h_ifne (tgt := 32) dX11_taken_27 rfl (fun c => absurd (by decide) c) (fun _ => ?_)
        refine h_iconst dX11_taken_30 ci_m1 ?_
        refine h_ireturn dX11_taken_31 rfl ?_
        exact hB (fun z => z.2.elim b0 b2)
    · refine h_ifeq (tgt := 30) dX11_taken_12 rfl (fun _ => ?_) (fun c => absurd (by decide) c)
      refine h_iconst dX11_taken_30 ci_m1 ?_
      refine h_ireturn dX11_taken_31 rfl ?_
      exact hB (fun z => b1 z.1)
