def tkOk (x w : Int32) : Prop := sh4 x ∧ ((nI 0 ≤ w ∧ w ≤ nI 6) ∨ (nI 10 ≤ w ∧ w ≤ nI 13))
/-- no thing on the shelf -/
def noT (nk np : Nat) (sk : Nat → Nat) (sm : Nat → Int32) (s : Nat) : Prop := sk s = 3 ∨ (sk s = 0 ∧ ¬ isIx (sm s) nk) ∨ (sk s = 1 ∧ ¬ isIx (sm s) np)
theorem und_big {a : Nat} {w : Int32} (h : undP (nI a) w) (ha : a ≤ 6) (hw : nI 10 ≤ w) : False := by
  have q := Int32.le_iff_toInt_le.mp hw
  rw [nI_toInt (by omega)] at q
  have n0 : ¬ w = nI 0 := fun z => by rw [z, nI_toInt (by omega)] at q; omega
  have n1 : ¬ w = nI 1 := fun z => by rw [z, nI_toInt (by omega)] at q; omega
  have n2 : ¬ w = nI 2 := fun z => by rw [z, nI_toInt (by omega)] at q; omega
  unfold undP at h
  rw [if_neg n0, if_neg n1, if_neg n2] at h
  rw [← h, nI_toInt (by omega)] at q
  omega
theorem sm_10 {x : Int32} (h : ∃ k, k ≤ 3 ∧ x = nI k) : ¬ nI 10 + x = -11 := by
  obtain ⟨k, h1, rfl⟩ := h
  rw [nI_add]
  exact nI_ne_neg (by omega) (by decide)
theorem c_taken {l : Launch} {dp : Nat} {ns nl np ml nk nw : Nat} {pl fa fb sl pp pm ki fr tg wh bw : Nat → Nat} {rs sn : Nat → Int32} {fl : Nat → Bool} {qw : Nat → Nat → Nat → Nat → Bool} {I : hI} {J : hJ} {lt tx : Option Nat} {sk : Nat → Nat} {sm sz : Nat → Int32} {x w : Int32} {Q : hQ} (hG : cG I ns nl np ml nk nw pl fa fb sl pp pm ki fr tg wh bw rs sn fl qw) (hH : cH I sk sm sz) (hB : ¬ tkOk x w → Q (some (.int (-1))) hSH I J (hRR lt tx)) (hN0 : ∀ s, x = nI s → s < 4 → tkOk x w → noT nk np sk sm s → Q (some (.int (-11))) hSH I J (hRR lt tx)) (hK : ∀ s k, x = nI s → s < 4 → tkOk x w → k < nk → sk s = 0 → sm s = nI k → (undP (nI (ki k)) w → Q (some (.int (sm s))) hSH I J (hRR lt tx)) ∧ (¬ undP (nI (ki k)) w → Q (some (.int (-13))) hSH I J (hRR lt tx))) (hPt : ∀ s p, x = nI s → s < 4 → tkOk x w → p < np → sk s = 1 → sm s = nI p → (undP (nI 6) w → Q (some (.int (sm s))) hSH I J (hRR lt tx)) ∧ (¬ undP (nI 6) w → Q (some (.int (-13))) hSH I J (hRR lt tx))) (hRo : ∀ s, x = nI s → s < 4 → tkOk x w → sk s = 2 → (undP (nI 10 + sm s) w → (¬ (nI 0 ≤ w ∧ w ≤ nI 6) → Q (some (.int (sz s))) hSH I J (hRR lt tx)) ∧ ((nI 0 ≤ w ∧ w ≤ nI 6) → Q (some (.int (sm s))) hSH I J (hRR lt tx))) ∧ (¬ undP (nI 10 + sm s) w → Q (some (.int (-13))) hSH I J (hRR lt tx))) : HC l mX11_taken (dp + 3) 0 0 [.ref 0, .int x, .int w] hSH I J (hRR lt tx) Q := by
  refine HC.of (by decide +kernel) rfl (Nat.le_of_ble_eq_true rfl) ?_
  show HV l mX11_taken (dp + 3) 0 0 0 [some (.ref 0), some (.int x), some (.int w), none, none] [] hSH I J (hRR lt tx) Q
  obtain ⟨⟨hN, hdo, hla, hlv⟩, hw, ⟨hnp, hml, hnk, hpt, hsi, hbt⟩, ⟨hn8, hm2, hn24, hpW, hsW⟩, hL⟩ := id hG
  obtain ⟨hns, hnl, hpl, hlg⟩ := id hN
  obtain ⟨hn6, hl12, hW, hp99, hr99⟩ := id hw
  refine h_iload_n dX11_taken_0 rfl ?_
  refine h_iconst dX11_taken_1 ci_0 ?_
  refine h_bipush dX11_taken_2 cb_6 ?_
  refine h_cS3 dX11_taken_4 k2_154 oSX11_within rfl ?_
  refine c_X11_within (fun b0 => ?_) (fun b0 => ?_)
  · refine h_istore_n dX11_taken_7 (Nat.le_of_ble_eq_true rfl) ?_
    refine h_iload_n dX11_taken_8 rfl ?_
    refine h_cS1 dX11_taken_9 k4_72 oSX11_isShelf rfl ?_
    refine c_X11_isShelf (fun b1 => ?_) (fun b1 => ?_)
    · obtain ⟨s, hxs, -, hs3⟩ := rng_ex (by omega) (by omega) b1.1 b1.2
      obtain ⟨w1, w2, w3, w4⟩ := hH s (by omega)
      subst hxs
      refine h_ifeq (tgt := 30) dX11_taken_12 rfl (fun c => absurd c (by decide)) (fun _ => ?_)
      refine h_iload_n dX11_taken_15 rfl ?_
      refine h_ifne (tgt := 32) dX11_taken_16 rfl (fun _ => ?_) (fun c => absurd c (by decide))
      refine h_aload_n dX11_taken_32 rfl ?_
      refine h_iload_n dX11_taken_33 rfl ?_
      refine h_cV1 dX11_taken_34 k4_83 oVX11_kindOn rfl rfl ?_
      have hok : tkOk (nI s) w := ⟨b1, by first | exact .inl b0 | exact .inr b2⟩
      refine c_kindOn hG hH (by omega) (fun e0 => ?_) (fun k hk e0 e9 => ?_) (fun p hp e0 e9 => ?_) (fun e0 => ?_)
      · refine h_istore dX11_taken_37 (Nat.le_of_ble_eq_true rfl) ?_
        refine h_iload dX11_taken_39 rfl ?_
        refine h_bipush dX11_taken_41 cb_m11 ?_
        refine h_icmpne (tgt := 49) dX11_taken_43 rfl (fun c => absurd (by decide) c) (fun _ => ?_)
        refine h_bipush dX11_taken_46 cb_m11 ?_
        refine h_ireturn dX11_taken_48 rfl ?_
        exact hN0 s rfl (by omega) hok e0
      · have hkk := hsW k hk
        refine h_istore dX11_taken_37 (Nat.le_of_ble_eq_true rfl) ?_
        refine h_iload dX11_taken_39 rfl ?_
        refine h_bipush dX11_taken_41 cb_m11 ?_
        refine h_icmpne (tgt := 49) dX11_taken_43 rfl (fun c_43 => ?_) (fun c_43 => ?_)
        · refine h_iload dX11_taken_49 rfl ?_
          refine h_iload_n dX11_taken_51 rfl ?_
          refine h_cS2 dX11_taken_52 k4_87 oSX11_isUnder rfl ?_
          refine c_isUnder (fun b3 => ?_) (fun b3 => ?_)
          · refine h_ifne (tgt := 61) dX11_taken_55 rfl (fun _ => ?_) (fun c => absurd c (by decide))
            refine h_iload_n dX11_taken_61 rfl ?_
            refine h_ifeq (tgt := 74) dX11_taken_62 rfl (fun c => absurd c (by decide)) (fun _ => ?_)
            refine h_aload_n dX11_taken_65 rfl ?_
            refine h_getR dX11_taken_66 f_X11_67_9 rfl rfl ?_
            refine h_iload_n dX11_taken_69 rfl ?_
            refine h_ialdN (j := s) dX11_taken_70 rfl rfl (by omega) rfl (w3 (by omega)) ?_
            refine h_goto (tgt := 80) dX11_taken_71 rfl ?_
            refine h_ireturn dX11_taken_80 rfl ?_
            exact (hK s k rfl (by omega) hok hk e0 e9).1 b3
          · refine h_ifne (tgt := 61) dX11_taken_55 rfl (fun c => absurd (by decide) c) (fun _ => ?_)
            refine h_bipush dX11_taken_58 cb_m13 ?_
            refine h_ireturn dX11_taken_60 rfl ?_
            exact (hK s k rfl (by omega) hok hk e0 e9).2 b3
        · exact absurd c_43 (nI_ne_neg (by omega) (by decide))
      · refine h_istore dX11_taken_37 (Nat.le_of_ble_eq_true rfl) ?_
        refine h_iload dX11_taken_39 rfl ?_
        refine h_bipush dX11_taken_41 cb_m11 ?_
        refine h_icmpne (tgt := 49) dX11_taken_43 rfl (fun _ => ?_) (fun c => absurd c (by decide))
        refine h_iload dX11_taken_49 rfl ?_
        refine h_iload_n dX11_taken_51 rfl ?_
        refine h_cS2 dX11_taken_52 k4_87 oSX11_isUnder rfl ?_
        refine c_isUnder (fun b3 => ?_) (fun b3 => ?_)
        · refine h_ifne (tgt := 61) dX11_taken_55 rfl (fun _ => ?_) (fun c => absurd c (by decide))
          refine h_iload_n dX11_taken_61 rfl ?_
          refine h_ifeq (tgt := 74) dX11_taken_62 rfl (fun c => absurd c (by decide)) (fun _ => ?_)
          refine h_aload_n dX11_taken_65 rfl ?_
          refine h_getR dX11_taken_66 f_X11_67_9 rfl rfl ?_
          refine h_iload_n dX11_taken_69 rfl ?_
          refine h_ialdN (j := s) dX11_taken_70 rfl rfl (by omega) rfl (w3 (by omega)) ?_
          refine h_goto (tgt := 80) dX11_taken_71 rfl ?_
          refine h_ireturn dX11_taken_80 rfl ?_
          exact (hPt s p rfl (by omega) hok hp e0 e9).1 b3
        · refine h_ifne (tgt := 61) dX11_taken_55 rfl (fun c => absurd (by decide) c) (fun _ => ?_)
          refine h_bipush dX11_taken_58 cb_m13 ?_
          refine h_ireturn dX11_taken_60 rfl ?_
          exact (hPt s p rfl (by omega) hok hp e0 e9).2 b3
      · refine h_istore dX11_taken_37 (Nat.le_of_ble_eq_true rfl) ?_
        refine h_iload dX11_taken_39 rfl ?_
        refine h_bipush dX11_taken_41 cb_m11 ?_
        refine h_icmpne (tgt := 49) dX11_taken_43 rfl (fun c_43 => ?_) (fun c_43 => ?_)
        · refine h_iload dX11_taken_49 rfl ?_
          refine h_iload_n dX11_taken_51 rfl ?_
          refine h_cS2 dX11_taken_52 k4_87 oSX11_isUnder rfl ?_
          refine c_isUnder (fun b3 => ?_) (fun b3 => ?_)
          · refine h_ifne (tgt := 61) dX11_taken_55 rfl (fun _ => ?_) (fun c => absurd c (by decide))
            refine h_iload_n dX11_taken_61 rfl ?_
            refine h_ifeq (tgt := 74) dX11_taken_62 rfl (fun c => absurd c (by decide)) (fun _ => ?_)
            refine h_aload_n dX11_taken_65 rfl ?_
            refine h_getR dX11_taken_66 f_X11_67_9 rfl rfl ?_
            refine h_iload_n dX11_taken_69 rfl ?_
            refine h_ialdN (j := s) dX11_taken_70 rfl rfl (by omega) rfl (w3 (by omega)) ?_
            refine h_goto (tgt := 80) dX11_taken_71 rfl ?_
            refine h_ireturn dX11_taken_80 rfl ?_
            exact ((hRo s rfl (by omega) hok e0).1 b3).2 b0
          · refine h_ifne (tgt := 61) dX11_taken_55 rfl (fun c => absurd (by decide) c) (fun _ => ?_)
            refine h_bipush dX11_taken_58 cb_m13 ?_
            refine h_ireturn dX11_taken_60 rfl ?_
            exact (hRo s rfl (by omega) hok e0).2 b3
        · exact absurd c_43 (sm_10 (w4 e0).2)
    · refine h_ifeq (tgt := 30) dX11_taken_12 rfl (fun _ => ?_) (fun c => absurd (by decide) c)
      refine h_iconst dX11_taken_30 ci_m1 ?_
      refine h_ireturn dX11_taken_31 rfl ?_
      exact hB (fun z => b1 z.1)
  · refine h_istore_n dX11_taken_7 (Nat.le_of_ble_eq_true rfl) ?_
    refine h_iload_n dX11_taken_8 rfl ?_
    refine h_cS1 dX11_taken_9 k4_72 oSX11_isShelf rfl ?_
    refine c_X11_isShelf (fun b1 => ?_) (fun b1 => ?_)
    · obtain ⟨s, hxs, -, hs3⟩ := rng_ex (by omega) (by omega) b1.1 b1.2
      obtain ⟨w1, w2, w3, w4⟩ := hH s (by omega)
      subst hxs
      refine h_ifeq (tgt := 30) dX11_taken_12 rfl (fun c => absurd c (by decide)) (fun _ => ?_)
      refine h_iload_n dX11_taken_15 rfl ?_
      refine h_ifne (tgt := 32) dX11_taken_16 rfl (fun c => absurd (by decide) c) (fun _ => ?_)
      refine h_iload_n dX11_taken_19 rfl ?_
      refine h_bipush dX11_taken_20 cb_10 ?_
      refine h_bipush dX11_taken_22 cb_13 ?_
      refine h_cS3 dX11_taken_24 k2_154 oSX11_within rfl ?_
      refine c_X11_within (fun b2 => ?_) (fun b2 => ?_)
      · refine h_ifne (tgt := 32) dX11_taken_27 rfl (fun _ => ?_) (fun c => absurd c (by decide))
        refine h_aload_n dX11_taken_32 rfl ?_
        refine h_iload_n dX11_taken_33 rfl ?_
        refine h_cV1 dX11_taken_34 k4_83 oVX11_kindOn rfl rfl ?_
        have hok : tkOk (nI s) w := ⟨b1, by first | exact .inl b0 | exact .inr b2⟩
        refine c_kindOn hG hH (by omega) (fun e0 => ?_) (fun k hk e0 e9 => ?_) (fun p hp e0 e9 => ?_) (fun e0 => ?_)
        · refine h_istore dX11_taken_37 (Nat.le_of_ble_eq_true rfl) ?_
          refine h_iload dX11_taken_39 rfl ?_
          refine h_bipush dX11_taken_41 cb_m11 ?_
          refine h_icmpne (tgt := 49) dX11_taken_43 rfl (fun c => absurd (by decide) c) (fun _ => ?_)
          refine h_bipush dX11_taken_46 cb_m11 ?_
          refine h_ireturn dX11_taken_48 rfl ?_
          exact hN0 s rfl (by omega) hok e0
        · have hkk := hsW k hk
          refine h_istore dX11_taken_37 (Nat.le_of_ble_eq_true rfl) ?_
          refine h_iload dX11_taken_39 rfl ?_
          refine h_bipush dX11_taken_41 cb_m11 ?_
          refine h_icmpne (tgt := 49) dX11_taken_43 rfl (fun c_43 => ?_) (fun c_43 => ?_)
          · refine h_iload dX11_taken_49 rfl ?_
            refine h_iload_n dX11_taken_51 rfl ?_
            refine h_cS2 dX11_taken_52 k4_87 oSX11_isUnder rfl ?_
            refine c_isUnder (fun b3 => ?_) (fun b3 => ?_)
            · refine h_ifne (tgt := 61) dX11_taken_55 rfl (fun _ => ?_) (fun c => absurd c (by decide))
              refine h_iload_n dX11_taken_61 rfl ?_
              refine h_ifeq (tgt := 74) dX11_taken_62 rfl (fun _ => ?_) (fun c => absurd (by decide) c)
              refine h_aload_n dX11_taken_74 rfl ?_
              refine h_getR dX11_taken_75 f_X11_70_9 rfl rfl ?_
              refine h_iload_n dX11_taken_78 rfl ?_
              refine h_ialdN (j := s) dX11_taken_79 rfl rfl (by omega) rfl rfl ?_
              refine h_ireturn dX11_taken_80 rfl ?_
              exact (und_big b3 (by omega) b2.1).elim
            · refine h_ifne (tgt := 61) dX11_taken_55 rfl (fun c => absurd (by decide) c) (fun _ => ?_)
              refine h_bipush dX11_taken_58 cb_m13 ?_
              refine h_ireturn dX11_taken_60 rfl ?_
              exact (hK s k rfl (by omega) hok hk e0 e9).2 b3
          · exact absurd c_43 (nI_ne_neg (by omega) (by decide))
        · refine h_istore dX11_taken_37 (Nat.le_of_ble_eq_true rfl) ?_
          refine h_iload dX11_taken_39 rfl ?_
          refine h_bipush dX11_taken_41 cb_m11 ?_
          refine h_icmpne (tgt := 49) dX11_taken_43 rfl (fun _ => ?_) (fun c => absurd c (by decide))
          refine h_iload dX11_taken_49 rfl ?_
          refine h_iload_n dX11_taken_51 rfl ?_
          refine h_cS2 dX11_taken_52 k4_87 oSX11_isUnder rfl ?_
          refine c_isUnder (fun b3 => ?_) (fun b3 => ?_)
          · refine h_ifne (tgt := 61) dX11_taken_55 rfl (fun _ => ?_) (fun c => absurd c (by decide))
            refine h_iload_n dX11_taken_61 rfl ?_
            refine h_ifeq (tgt := 74) dX11_taken_62 rfl (fun _ => ?_) (fun c => absurd (by decide) c)
            refine h_aload_n dX11_taken_74 rfl ?_
            refine h_getR dX11_taken_75 f_X11_70_9 rfl rfl ?_
            refine h_iload_n dX11_taken_78 rfl ?_
            refine h_ialdN (j := s) dX11_taken_79 rfl rfl (by omega) rfl rfl ?_
            refine h_ireturn dX11_taken_80 rfl ?_
            exact (und_big b3 (by omega) b2.1).elim
          · refine h_ifne (tgt := 61) dX11_taken_55 rfl (fun c => absurd (by decide) c) (fun _ => ?_)
            refine h_bipush dX11_taken_58 cb_m13 ?_
            refine h_ireturn dX11_taken_60 rfl ?_
            exact (hPt s p rfl (by omega) hok hp e0 e9).2 b3
        · refine h_istore dX11_taken_37 (Nat.le_of_ble_eq_true rfl) ?_
          refine h_iload dX11_taken_39 rfl ?_
          refine h_bipush dX11_taken_41 cb_m11 ?_
          refine h_icmpne (tgt := 49) dX11_taken_43 rfl (fun c_43 => ?_) (fun c_43 => ?_)
          · refine h_iload dX11_taken_49 rfl ?_
            refine h_iload_n dX11_taken_51 rfl ?_
            refine h_cS2 dX11_taken_52 k4_87 oSX11_isUnder rfl ?_
            refine c_isUnder (fun b3 => ?_) (fun b3 => ?_)
            · refine h_ifne (tgt := 61) dX11_taken_55 rfl (fun _ => ?_) (fun c => absurd c (by decide))
              refine h_iload_n dX11_taken_61 rfl ?_
              refine h_ifeq (tgt := 74) dX11_taken_62 rfl (fun _ => ?_) (fun c => absurd (by decide) c)
              refine h_aload_n dX11_taken_74 rfl ?_
              refine h_getR dX11_taken_75 f_X11_70_9 rfl rfl ?_
              refine h_iload_n dX11_taken_78 rfl ?_
              refine h_ialdN (j := s) dX11_taken_79 rfl rfl (by omega) rfl rfl ?_
              refine h_ireturn dX11_taken_80 rfl ?_
              rw [(w4 e0).1]
              exact ((hRo s rfl (by omega) hok e0).1 b3).1 b0
            · refine h_ifne (tgt := 61) dX11_taken_55 rfl (fun c => absurd (by decide) c) (fun _ => ?_)
              refine h_bipush dX11_taken_58 cb_m13 ?_
              refine h_ireturn dX11_taken_60 rfl ?_
              exact (hRo s rfl (by omega) hok e0).2 b3
          · exact absurd c_43 (sm_10 (w4 e0).2)
      · refine h_ifne (tgt := 32) dX11_taken_27 rfl (fun c => absurd (by decide) c) (fun _ => ?_)
        refine h_iconst dX11_taken_30 ci_m1 ?_
        refine h_ireturn dX11_taken_31 rfl ?_
        exact hB (fun z => z.2.elim b0 b2)
    · refine h_ifeq (tgt := 30) dX11_taken_12 rfl (fun _ => ?_) (fun c => absurd (by decide) c)
      refine h_iconst dX11_taken_30 ci_m1 ?_
      refine h_ireturn dX11_taken_31 rfl ?_
      exact hB (fun z => b1 z.1)
theorem und_row {x w : Int32} (h : ∃ k, k ≤ 3 ∧ x = nI k) : undP (nI 10 + x) w ↔ w = nI 10 + x := by
  obtain ⟨k, h1, rfl⟩ := h
  rw [nI_add]
  unfold undP
  by_cases s0 : w = nI 0
  · rw [if_pos s0]
    refine ⟨fun z => ?_, fun z => ?_⟩
    · have q := Int32.le_iff_toInt_le.mp z.2
      rw [nI_toInt (by omega), nI_toInt (by omega)] at q
      omega
    · rw [s0, nI_eq (by omega) (by omega)] at z; omega
  · rw [if_neg s0]
    by_cases s1 : w = nI 1
    · rw [if_pos s1, nI_eq (by omega) (by omega), nI_eq (by omega) (by omega)]
      refine ⟨fun z => by omega, fun z => ?_⟩
      rw [s1, nI_eq (by omega) (by omega)] at z; omega
    · rw [if_neg s1]
      by_cases s2 : w = nI 2
      · rw [if_pos s2, nI_eq (by omega) (by omega), nI_eq (by omega) (by omega)]
        refine ⟨fun z => by omega, fun z => ?_⟩
        rw [s2, nI_eq (by omega) (by omega)] at z; omega
      · rw [if_neg s2]; exact ⟨fun z => z.symm, fun z => z.symm⟩
theorem row_no6 {x w : Int32} (h : ∃ k, k ≤ 3 ∧ x = nI k) (e : w = nI 10 + x) : ¬ (nI 0 ≤ w ∧ w ≤ nI 6) := by
  obtain ⟨k, h1, rfl⟩ := h
  rw [nI_add] at e
  subst e
  intro z
  have q := Int32.le_iff_toInt_le.mp z.2
  rw [nI_toInt (by omega), nI_toInt (by omega)] at q
  omega
theorem r_taken {l : Launch} {dp : Nat} {ns nl np ml nk nw : Nat} {pl fa fb sl pp pm ki fr tg wh bw : Nat → Nat} {rs sn : Nat → Int32} {fl : Nat → Bool} {qw : Nat → Nat → Nat → Nat → Bool} {I : hI} {J : hJ} {lt tx : Option Nat} {sk : Nat → Nat} {sm sz : Nat → Int32} {x w : Int32} {Q : hQ} (hG : rG I ns nl np ml nk nw pl fa fb sl pp pm ki fr tg wh bw rs sn fl qw) (hH : rH I sk sm sz) (hB : ¬ tkOk x w → Q (some (.int (-1))) hSH I J (hRR lt tx)) (hN0 : ∀ s, x = nI s → s < 4 → tkOk x w → noT nk np sk sm s → Q (some (.int (-11))) hSH I J (hRR lt tx)) (hK : ∀ s k, x = nI s → s < 4 → tkOk x w → k < nk → sk s = 0 → sm s = nI k → (undP (nI (ki k)) w → Q (some (.int (sm s))) hSH I J (hRR lt tx)) ∧ (¬ undP (nI (ki k)) w → Q (some (.int (-13))) hSH I J (hRR lt tx))) (hPt : ∀ s p, x = nI s → s < 4 → tkOk x w → p < np → sk s = 1 → sm s = nI p → (undP (nI 6) w → Q (some (.int (sm s))) hSH I J (hRR lt tx)) ∧ (¬ undP (nI 6) w → Q (some (.int (-13))) hSH I J (hRR lt tx))) (hRo : ∀ s, x = nI s → s < 4 → tkOk x w → sk s = 2 → (undP (nI 10 + sm s) w → (¬ (nI 0 ≤ w ∧ w ≤ nI 6) → Q (some (.int (sz s))) hSH I J (hRR lt tx)) ∧ ((nI 0 ≤ w ∧ w ≤ nI 6) → Q (some (.int (sm s))) hSH I J (hRR lt tx))) ∧ (¬ undP (nI 10 + sm s) w → Q (some (.int (-13))) hSH I J (hRR lt tx))) : HC l mX12_taken (dp + 4) 0 0 [.ref 82, .int x, .int w] hSH I J (hRR lt tx) Q := by
  refine HC.of (by decide +kernel) rfl (Nat.le_of_ble_eq_true rfl) ?_
  show HV l mX12_taken (dp + 4) 0 0 0 [some (.ref 82), some (.int x), some (.int w), none] [] hSH I J (hRR lt tx) Q
  obtain ⟨hN, hw, ⟨hnp, hml, hnk, hpt, hsi⟩, ⟨hn8, hm2, hn24, hpW, hsW⟩, hL⟩ := id hG
  obtain ⟨hns, hnl, hpl, hlg⟩ := id hN
  obtain ⟨hn6, hl12, hW, hp99, hr99⟩ := id hw
  refine h_iload_n dX12_taken_0 rfl ?_
  refine h_cS1 dX12_taken_1 k6_233 oSX12_isShelf rfl ?_
  refine c_X12_isShelf (fun b1 => ?_) (fun b1 => ?_)
  · obtain ⟨s, hxs, -, hs3⟩ := rng_ex (by omega) (by omega) b1.1 b1.2
    obtain ⟨w1, w2, w3, w4⟩ := hH s (by omega)
    subst hxs
    refine h_ifeq (tgt := 28) dX12_taken_4 rfl (fun c => absurd c (by decide)) (fun _ => ?_)
    refine h_iload_n dX12_taken_7 rfl ?_
    refine h_iconst dX12_taken_8 ci_0 ?_
    refine h_bipush dX12_taken_9 cb_6 ?_
    refine h_cS3 dX12_taken_11 k5_172 oSX12_in rfl ?_
    refine c_X12_in (fun b0 => ?_) (fun b0 => ?_)
    · refine h_ifne (tgt := 30) dX12_taken_14 rfl (fun _ => ?_) (fun c => absurd c (by decide))
      refine h_aload_n dX12_taken_30 rfl ?_
      refine h_iload_n dX12_taken_31 rfl ?_
      refine h_cV1 dX12_taken_32 k7_25 oVX12_kindOn rfl rfl ?_
      have hok : tkOk (nI s) w := ⟨b1, by first | exact .inl b0 | exact .inr b2⟩
      refine r_kindOn hG hH (by omega) (fun e0 => ?_) (fun k hk e0 e9 => ?_) (fun p hp e0 e9 => ?_) (fun e0 => ?_)
      · refine h_istore_n dX12_taken_35 (Nat.le_of_ble_eq_true rfl) ?_
        refine h_iload_n dX12_taken_36 rfl ?_
        refine h_ifge (tgt := 43) dX12_taken_37 rfl (fun c => absurd c (by decide)) (fun _ => ?_)
        refine h_bipush dX12_taken_40 cb_m11 ?_
        refine h_ireturn dX12_taken_42 rfl ?_
        exact hN0 s rfl (by omega) hok e0
      · have hkk := hsW k hk
        refine h_istore_n dX12_taken_35 (Nat.le_of_ble_eq_true rfl) ?_
        refine h_iload_n dX12_taken_36 rfl ?_
        refine h_ifge (tgt := 43) dX12_taken_37 rfl (fun c_37 => ?_) (fun c_37 => ?_)
        · rw [show (0 : Int32) = nI 0 from rfl, nI_leI (by omega) (by omega)] at c_37
          refine h_iload_n dX12_taken_43 rfl ?_
          refine h_bipush dX12_taken_44 cb_9 ?_
          refine h_icmpne (tgt := 74) dX12_taken_46 rfl (fun c_46 => ?_) (fun c_46 => ?_)
          · rw [nI_eq (by omega) (by omega)] at c_46
            refine h_iload_n dX12_taken_74 rfl ?_
            refine h_bipush dX12_taken_75 cb_10 ?_
            refine h_icmpge (tgt := 97) dX12_taken_77 rfl (fun c_77 => ?_) (fun c_77 => ?_)
            · refine h_bipush dX12_taken_97 cb_m13 ?_
              refine h_ireturn dX12_taken_99 rfl ?_
              exact (hK s k rfl (by omega) hok hk e0 e9).2 (fun z => und_big z (by omega) c_77)
            · refine h_iload_n dX12_taken_80 rfl ?_
              refine h_iload_n dX12_taken_81 rfl ?_
              refine h_cS2 dX12_taken_82 k7_29 oSX12_isUnder rfl ?_
              refine r_isUnder (by first | decide | exact (by rw [nI_leI (by omega) (by omega)]; omega)) (fun b3 => ?_) (fun b3 => ?_)
              · refine h_ifeq (tgt := 97) dX12_taken_85 rfl (fun c => absurd c (by decide)) (fun _ => ?_)
                refine h_aload_n dX12_taken_88 rfl ?_
                refine h_getR dX12_taken_89 f_X12_87_10 rfl rfl ?_
                refine h_iload_n dX12_taken_92 rfl ?_
                refine h_ialdN (j := s) dX12_taken_93 rfl rfl (by omega) rfl (w3 (by omega)) ?_
                refine h_goto (tgt := 99) dX12_taken_94 rfl ?_
                refine h_ireturn dX12_taken_99 rfl ?_
                exact (hK s k rfl (by omega) hok hk e0 e9).1 b3
              · refine h_ifeq (tgt := 97) dX12_taken_85 rfl (fun _ => ?_) (fun c => absurd (by decide) c)
                refine h_bipush dX12_taken_97 cb_m13 ?_
                refine h_ireturn dX12_taken_99 rfl ?_
                exact (hK s k rfl (by omega) hok hk e0 e9).2 b3
          · rw [nI_eq (by omega) (by omega)] at c_46
            exfalso
            omega
        · rw [show (0 : Int32) = nI 0 from rfl, nI_leI (by omega) (by omega)] at c_37
          exfalso
          omega
      · refine h_istore_n dX12_taken_35 (Nat.le_of_ble_eq_true rfl) ?_
        refine h_iload_n dX12_taken_36 rfl ?_
        refine h_ifge (tgt := 43) dX12_taken_37 rfl (fun _ => ?_) (fun c => absurd (by decide) c)
        refine h_iload_n dX12_taken_43 rfl ?_
        refine h_bipush dX12_taken_44 cb_9 ?_
        refine h_icmpne (tgt := 74) dX12_taken_46 rfl (fun _ => ?_) (fun c => absurd c (by decide))
        refine h_iload_n dX12_taken_74 rfl ?_
        refine h_bipush dX12_taken_75 cb_10 ?_
        refine h_icmpge (tgt := 97) dX12_taken_77 rfl (fun c_77 => ?_) (fun c_77 => ?_)
        · refine h_bipush dX12_taken_97 cb_m13 ?_
          refine h_ireturn dX12_taken_99 rfl ?_
          exact (hPt s p rfl (by omega) hok hp e0 e9).2 (fun z => und_big z (by omega) c_77)
        · refine h_iload_n dX12_taken_80 rfl ?_
          refine h_iload_n dX12_taken_81 rfl ?_
          refine h_cS2 dX12_taken_82 k7_29 oSX12_isUnder rfl ?_
          refine r_isUnder (by first | decide | exact (by rw [nI_leI (by omega) (by omega)]; omega)) (fun b3 => ?_) (fun b3 => ?_)
          · refine h_ifeq (tgt := 97) dX12_taken_85 rfl (fun c => absurd c (by decide)) (fun _ => ?_)
            refine h_aload_n dX12_taken_88 rfl ?_
            refine h_getR dX12_taken_89 f_X12_87_10 rfl rfl ?_
            refine h_iload_n dX12_taken_92 rfl ?_
            refine h_ialdN (j := s) dX12_taken_93 rfl rfl (by omega) rfl (w3 (by omega)) ?_
            refine h_goto (tgt := 99) dX12_taken_94 rfl ?_
            refine h_ireturn dX12_taken_99 rfl ?_
            exact (hPt s p rfl (by omega) hok hp e0 e9).1 b3
          · refine h_ifeq (tgt := 97) dX12_taken_85 rfl (fun _ => ?_) (fun c => absurd (by decide) c)
            refine h_bipush dX12_taken_97 cb_m13 ?_
            refine h_ireturn dX12_taken_99 rfl ?_
            exact (hPt s p rfl (by omega) hok hp e0 e9).2 b3
      · refine h_istore_n dX12_taken_35 (Nat.le_of_ble_eq_true rfl) ?_
        refine h_iload_n dX12_taken_36 rfl ?_
        refine h_ifge (tgt := 43) dX12_taken_37 rfl (fun _ => ?_) (fun c => absurd (by decide) c)
        refine h_iload_n dX12_taken_43 rfl ?_
        refine h_bipush dX12_taken_44 cb_9 ?_
        refine h_icmpne (tgt := 74) dX12_taken_46 rfl (fun c => absurd (by decide) c) (fun _ => ?_)
        refine h_iload_n dX12_taken_49 rfl ?_
        refine h_bipush dX12_taken_50 cb_10 ?_
        refine h_aload_n dX12_taken_52 rfl ?_
        refine h_getR dX12_taken_53 f_X12_87_10 rfl rfl ?_
        refine h_iload_n dX12_taken_56 rfl ?_
        refine h_ialdN (j := s) dX12_taken_57 rfl rfl (by omega) rfl (w3 (by omega)) ?_
        refine h_iadd dX12_taken_58 ?_
        refine h_icmpne (tgt := 71) dX12_taken_59 rfl (fun c_59 => ?_) (fun c_59 => ?_)
        · refine h_bipush dX12_taken_71 cb_m13 ?_
          refine h_ireturn dX12_taken_73 rfl ?_
          exact (hRo s rfl (by omega) hok e0).2 (fun z => c_59 ((und_row (w4 e0).2).mp z))
        · refine h_aload_n dX12_taken_62 rfl ?_
          refine h_getR dX12_taken_63 f_X12_90_10 rfl rfl ?_
          refine h_iload_n dX12_taken_66 rfl ?_
          refine h_ialdN (j := s) dX12_taken_67 rfl rfl (by omega) rfl rfl ?_
          refine h_goto (tgt := 73) dX12_taken_68 rfl ?_
          refine h_ireturn dX12_taken_73 rfl ?_
          rw [(w4 e0).1]
          exact ((hRo s rfl (by omega) hok e0).1 ((und_row (w4 e0).2).mpr c_59)).1 (row_no6 (w4 e0).2 c_59)
    · refine h_ifne (tgt := 30) dX12_taken_14 rfl (fun c => absurd (by decide) c) (fun _ => ?_)
      refine h_iload_n dX12_taken_17 rfl ?_
      refine h_bipush dX12_taken_18 cb_10 ?_
      refine h_bipush dX12_taken_20 cb_13 ?_
      refine h_cS3 dX12_taken_22 k5_172 oSX12_in rfl ?_
      refine c_X12_in (fun b2 => ?_) (fun b2 => ?_)
      · refine h_ifne (tgt := 30) dX12_taken_25 rfl (fun _ => ?_) (fun c => absurd c (by decide))
        refine h_aload_n dX12_taken_30 rfl ?_
        refine h_iload_n dX12_taken_31 rfl ?_
        refine h_cV1 dX12_taken_32 k7_25 oVX12_kindOn rfl rfl ?_
        have hok : tkOk (nI s) w := ⟨b1, by first | exact .inl b0 | exact .inr b2⟩
        refine r_kindOn hG hH (by omega) (fun e0 => ?_) (fun k hk e0 e9 => ?_) (fun p hp e0 e9 => ?_) (fun e0 => ?_)
        · refine h_istore_n dX12_taken_35 (Nat.le_of_ble_eq_true rfl) ?_
          refine h_iload_n dX12_taken_36 rfl ?_
          refine h_ifge (tgt := 43) dX12_taken_37 rfl (fun c => absurd c (by decide)) (fun _ => ?_)
          refine h_bipush dX12_taken_40 cb_m11 ?_
          refine h_ireturn dX12_taken_42 rfl ?_
          exact hN0 s rfl (by omega) hok e0
        · have hkk := hsW k hk
          refine h_istore_n dX12_taken_35 (Nat.le_of_ble_eq_true rfl) ?_
          refine h_iload_n dX12_taken_36 rfl ?_
          refine h_ifge (tgt := 43) dX12_taken_37 rfl (fun c_37 => ?_) (fun c_37 => ?_)
          · rw [show (0 : Int32) = nI 0 from rfl, nI_leI (by omega) (by omega)] at c_37
            refine h_iload_n dX12_taken_43 rfl ?_
            refine h_bipush dX12_taken_44 cb_9 ?_
            refine h_icmpne (tgt := 74) dX12_taken_46 rfl (fun c_46 => ?_) (fun c_46 => ?_)
            · rw [nI_eq (by omega) (by omega)] at c_46
              refine h_iload_n dX12_taken_74 rfl ?_
              refine h_bipush dX12_taken_75 cb_10 ?_
              refine h_icmpge (tgt := 97) dX12_taken_77 rfl (fun c_77 => ?_) (fun c_77 => ?_)
              · refine h_bipush dX12_taken_97 cb_m13 ?_
                refine h_ireturn dX12_taken_99 rfl ?_
                exact (hK s k rfl (by omega) hok hk e0 e9).2 (fun z => und_big z (by omega) c_77)
              · refine h_iload_n dX12_taken_80 rfl ?_
                refine h_iload_n dX12_taken_81 rfl ?_
                refine h_cS2 dX12_taken_82 k7_29 oSX12_isUnder rfl ?_
                refine r_isUnder (by first | decide | exact (by rw [nI_leI (by omega) (by omega)]; omega)) (fun b3 => ?_) (fun b3 => ?_)
                · refine h_ifeq (tgt := 97) dX12_taken_85 rfl (fun c => absurd c (by decide)) (fun _ => ?_)
                  refine h_aload_n dX12_taken_88 rfl ?_
                  refine h_getR dX12_taken_89 f_X12_87_10 rfl rfl ?_
                  refine h_iload_n dX12_taken_92 rfl ?_
                  refine h_ialdN (j := s) dX12_taken_93 rfl rfl (by omega) rfl (w3 (by omega)) ?_
                  refine h_goto (tgt := 99) dX12_taken_94 rfl ?_
                  refine h_ireturn dX12_taken_99 rfl ?_
                  exact (hK s k rfl (by omega) hok hk e0 e9).1 b3
                · refine h_ifeq (tgt := 97) dX12_taken_85 rfl (fun _ => ?_) (fun c => absurd (by decide) c)
                  refine h_bipush dX12_taken_97 cb_m13 ?_
                  refine h_ireturn dX12_taken_99 rfl ?_
                  exact (hK s k rfl (by omega) hok hk e0 e9).2 b3
            · rw [nI_eq (by omega) (by omega)] at c_46
              exfalso
              omega
          · rw [show (0 : Int32) = nI 0 from rfl, nI_leI (by omega) (by omega)] at c_37
            exfalso
            omega
        · refine h_istore_n dX12_taken_35 (Nat.le_of_ble_eq_true rfl) ?_
          refine h_iload_n dX12_taken_36 rfl ?_
          refine h_ifge (tgt := 43) dX12_taken_37 rfl (fun _ => ?_) (fun c => absurd (by decide) c)
          refine h_iload_n dX12_taken_43 rfl ?_
          refine h_bipush dX12_taken_44 cb_9 ?_
          refine h_icmpne (tgt := 74) dX12_taken_46 rfl (fun _ => ?_) (fun c => absurd c (by decide))
          refine h_iload_n dX12_taken_74 rfl ?_
          refine h_bipush dX12_taken_75 cb_10 ?_
          refine h_icmpge (tgt := 97) dX12_taken_77 rfl (fun c_77 => ?_) (fun c_77 => ?_)
          · refine h_bipush dX12_taken_97 cb_m13 ?_
            refine h_ireturn dX12_taken_99 rfl ?_
            exact (hPt s p rfl (by omega) hok hp e0 e9).2 (fun z => und_big z (by omega) c_77)
          · refine h_iload_n dX12_taken_80 rfl ?_
            refine h_iload_n dX12_taken_81 rfl ?_
            refine h_cS2 dX12_taken_82 k7_29 oSX12_isUnder rfl ?_
            refine r_isUnder (by first | decide | exact (by rw [nI_leI (by omega) (by omega)]; omega)) (fun b3 => ?_) (fun b3 => ?_)
            · refine h_ifeq (tgt := 97) dX12_taken_85 rfl (fun c => absurd c (by decide)) (fun _ => ?_)
              refine h_aload_n dX12_taken_88 rfl ?_
              refine h_getR dX12_taken_89 f_X12_87_10 rfl rfl ?_
              refine h_iload_n dX12_taken_92 rfl ?_
              refine h_ialdN (j := s) dX12_taken_93 rfl rfl (by omega) rfl (w3 (by omega)) ?_
              refine h_goto (tgt := 99) dX12_taken_94 rfl ?_
              refine h_ireturn dX12_taken_99 rfl ?_
              exact (hPt s p rfl (by omega) hok hp e0 e9).1 b3
            · refine h_ifeq (tgt := 97) dX12_taken_85 rfl (fun _ => ?_) (fun c => absurd (by decide) c)
              refine h_bipush dX12_taken_97 cb_m13 ?_
              refine h_ireturn dX12_taken_99 rfl ?_
              exact (hPt s p rfl (by omega) hok hp e0 e9).2 b3
        · refine h_istore_n dX12_taken_35 (Nat.le_of_ble_eq_true rfl) ?_
          refine h_iload_n dX12_taken_36 rfl ?_
          refine h_ifge (tgt := 43) dX12_taken_37 rfl (fun _ => ?_) (fun c => absurd (by decide) c)
          refine h_iload_n dX12_taken_43 rfl ?_
          refine h_bipush dX12_taken_44 cb_9 ?_
          refine h_icmpne (tgt := 74) dX12_taken_46 rfl (fun c => absurd (by decide) c) (fun _ => ?_)
          refine h_iload_n dX12_taken_49 rfl ?_
          refine h_bipush dX12_taken_50 cb_10 ?_
          refine h_aload_n dX12_taken_52 rfl ?_
          refine h_getR dX12_taken_53 f_X12_87_10 rfl rfl ?_
          refine h_iload_n dX12_taken_56 rfl ?_
          refine h_ialdN (j := s) dX12_taken_57 rfl rfl (by omega) rfl (w3 (by omega)) ?_
          refine h_iadd dX12_taken_58 ?_
          refine h_icmpne (tgt := 71) dX12_taken_59 rfl (fun c_59 => ?_) (fun c_59 => ?_)
          · refine h_bipush dX12_taken_71 cb_m13 ?_
            refine h_ireturn dX12_taken_73 rfl ?_
            exact (hRo s rfl (by omega) hok e0).2 (fun z => c_59 ((und_row (w4 e0).2).mp z))
          · refine h_aload_n dX12_taken_62 rfl ?_
            refine h_getR dX12_taken_63 f_X12_90_10 rfl rfl ?_
            refine h_iload_n dX12_taken_66 rfl ?_
            refine h_ialdN (j := s) dX12_taken_67 rfl rfl (by omega) rfl rfl ?_
            refine h_goto (tgt := 73) dX12_taken_68 rfl ?_
            refine h_ireturn dX12_taken_73 rfl ?_
            rw [(w4 e0).1]
            exact ((hRo s rfl (by omega) hok e0).1 ((und_row (w4 e0).2).mpr c_59)).1 (row_no6 (w4 e0).2 c_59)
      · refine h_ifne (tgt := 30) dX12_taken_25 rfl (fun c => absurd (by decide) c) (fun _ => ?_)
        refine h_iconst dX12_taken_28 ci_m1 ?_
        refine h_ireturn dX12_taken_29 rfl ?_
        exact hB (fun z => z.2.elim b0 b2)
  · refine h_ifeq (tgt := 28) dX12_taken_4 rfl (fun _ => ?_) (fun c => absurd (by decide) c)
    refine h_iconst dX12_taken_28 ci_m1 ?_
    refine h_ireturn dX12_taken_29 rfl ?_
    exact hB (fun z => b1 z.1)
