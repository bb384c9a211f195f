def soW (x : Int32) : Prop := x = -1 ∨ x = nI 0 ∨ x = nI 1 ∨ x = nI 2 ∨ x = nI 3
theorem soW_neg {x : Int32} (h : soW x) : (0 ≤ x ↔ ¬ x = -1) := by
  rcases h with rfl | rfl | rfl | rfl | rfl <;> decide
def cSh (I : hI) (J : hJ) (so : Nat → Int32) (si : Nat → Nat) (it : Nat → Nat → Int64) : Prop := ∀ s, s < 4 → I 63 s = so s ∧ I 64 s = nI (si s) ∧ si s ≤ 40 ∧ soW (so s) ∧ ∀ j, j < si s → J 65 (40 * s + j) = it s j
def rSh (I : hI) (J : hJ) (so : Nat → Int32) (si : Nat → Nat) (it : Nat → Nat → Int64) : Prop := ∀ s, s < 4 → I 104 s = so s ∧ I 105 s = nI (si s) ∧ si s ≤ 40 ∧ soW (so s) ∧ ∀ j, j < si s → J 106 (40 * s + j) = it s j
def sh4 (x : Int32) : Prop := nI 0 ≤ x ∧ x ≤ nI 3
def nrw (u w : Int32) : Int64 := if w = 0 then u.toInt8.toInt32.toInt64 else if w = 1 then u.toInt16.toInt32.toInt64 else u.toInt64
theorem c_narrowed {l : Launch} {dp : Nat} {u w : Int32} {sh : hS} {I : hI} {J : hJ} {R : hR} {Q : hQ} (hQ : Q (some (.long (nrw u w))) sh I J R) : HC l mX11_narrowed dp 0 0 [.int u, .int w] sh I J R Q := by
  refine HC.of (by decide +kernel) rfl (Nat.le_of_ble_eq_true rfl) ?_
  show HV l mX11_narrowed dp 0 0 0 [some (.int u), some (.int w)] [] sh I J R Q
  refine h_iload_n dX11_narrowed_0 rfl ?_
  by_cases s0 : w = (0 : Int32)
  · refine h_lookup (off := 27) (tgt := 28) dX11_narrowed_1 rfl (by rw [s0]; decide) rfl ?_
    refine h_iload_n dX11_narrowed_28 rfl ?_
    refine h_i2b dX11_narrowed_29 ?_
    refine h_i2l dX11_narrowed_30 ?_
    refine h_lreturn dX11_narrowed_31 rfl ?_
    unfold nrw at hQ
    rw [if_pos s0] at hQ
    exact hQ
  by_cases s1 : w = (1 : Int32)
  · refine h_lookup (off := 31) (tgt := 32) dX11_narrowed_1 rfl (by rw [s1]; decide) rfl ?_
    refine h_iload_n dX11_narrowed_32 rfl ?_
    refine h_i2s dX11_narrowed_33 ?_
    refine h_i2l dX11_narrowed_34 ?_
    refine h_lreturn dX11_narrowed_35 rfl ?_
    unfold nrw at hQ
    rw [if_neg s0, if_pos s1] at hQ
    exact hQ
  refine h_lookup (off := 35) (tgt := 36) dX11_narrowed_1 rfl ((lv_osw s0 (by decide)).trans ((lv_osw s1 (by decide)).trans rfl)) rfl ?_
  refine h_iload_n dX11_narrowed_36 rfl ?_
  refine h_i2l dX11_narrowed_37 ?_
  refine h_lreturn dX11_narrowed_38 rfl ?_
  unfold nrw at hQ
  rw [if_neg s0, if_neg s1] at hQ
  exact hQ
theorem c_put {l : Launch} {dp : Nat} {so : Nat → Int32} {si : Nat → Nat} {it : Nat → Nat → Int64} {I : hI} {J : hJ} {lt tx : Option Nat} {x y u : Int32} {Q : hQ} (hS : cSh I J so si it) (hB : ¬ sh4 x → Q (some (.int (-1))) hSH I J (hRR lt tx)) (h11 : ∀ s, x = nI s → s < 4 → so s = -1 → Q (some (.int (-11))) hSH I J (hRR lt tx)) (h12 : ∀ s, x = nI s → s < 4 → ¬ so s = -1 → ¬ isIx y (si s) → Q (some (.int (-12))) hSH I J (hRR lt tx)) (hO : ∀ s i, x = nI s → y = nI i → s < 4 → i < si s → ¬ so s = -1 → Q (some (.int (nI 1))) hSH I (upJ J 65 (40 * s + i) (nrw u (so s))) (hRR lt tx)) : HC l mX11_put (dp + 2) 0 0 [.ref 0, .int x, .int y, .int u] hSH I J (hRR lt tx) Q := by
  refine HC.of (by decide +kernel) rfl (Nat.le_of_ble_eq_true rfl) ?_
  show HV l mX11_put (dp + 2) 0 0 0 [some (.ref 0), some (.int x), some (.int y), some (.int u)] [] hSH I J (hRR lt tx) Q
  refine h_iload_n dX11_put_0 rfl ?_
  refine h_cS1 dX11_put_1 k4_46 oSX11_isSheet rfl ?_
  refine c_X11_isSheet (fun b1 => ?_) (fun b1 => ?_)
  · obtain ⟨s, rfl, -, hs3⟩ := rng_ex (by omega) (by omega) b1.1 b1.2
    obtain ⟨w1, w2, w3, w4, w5⟩ := hS s (by omega)
    refine h_ifne (tgt := 9) dX11_put_4 rfl (fun _ => ?_) (fun c => absurd c (by decide))
    refine h_aload_n dX11_put_9 rfl ?_
    refine h_getR dX11_put_10 f_X11_54_9 rfl rfl ?_
    refine h_iload_n dX11_put_13 rfl ?_
    refine h_ialdN (j := s) dX11_put_14 rfl rfl (by omega) rfl w1 ?_
    refine h_iconst dX11_put_15 ci_m1 ?_
    refine h_icmpne (tgt := 22) dX11_put_16 rfl (fun c_16 => ?_) (fun c_16 => ?_)
    · refine h_iload_n dX11_put_22 rfl ?_
      refine h_iconst dX11_put_23 ci_0 ?_
      refine h_aload_n dX11_put_24 rfl ?_
      refine h_getR dX11_put_25 f_X11_57_9 rfl rfl ?_
      refine h_iload_n dX11_put_28 rfl ?_
      refine h_ialdN (j := s) dX11_put_29 rfl rfl (by omega) rfl w2 ?_
      refine h_iconst dX11_put_30 ci_1 ?_
      refine h_isub dX11_put_31 ?_
      refine h_cS3 dX11_put_32 k2_154 oSX11_within rfl ?_
      refine c_X11_within (fun b2 => ?_) (fun b2 => ?_)
      · obtain ⟨i, hi, rfl⟩ := (isIx_iff (by omega)).mp b2
        refine h_ifne (tgt := 41) dX11_put_35 rfl (fun _ => ?_) (fun c => absurd c (by decide))
        refine h_aload_n dX11_put_41 rfl ?_
        refine h_getR dX11_put_42 f_X11_60_9 rfl rfl ?_
        refine h_iload_n dX11_put_45 rfl ?_
        refine h_bipush dX11_put_46 cb_40 ?_
        refine h_imulN dX11_put_48 ?_
        refine h_iload_n dX11_put_49 rfl ?_
        refine h_iaddN dX11_put_50 ?_
        refine h_iload_n dX11_put_51 rfl ?_
        refine h_aload_n dX11_put_52 rfl ?_
        refine h_getR dX11_put_53 f_X11_54_9 rfl rfl ?_
        refine h_iload_n dX11_put_56 rfl ?_
        refine h_ialdN (j := s) dX11_put_57 rfl rfl (by omega) rfl w1 ?_
        refine h_cS2 dX11_put_58 k4_53 oSX11_narrowed rfl ?_
        refine c_narrowed ?_
        refine h_lastN (j := 40 * s + i) dX11_put_61 rfl (by rw [Nat.mul_comm]) (by omega) rfl ?_
        refine h_iconst dX11_put_62 ci_1 ?_
        refine h_ireturn dX11_put_63 rfl ?_
        exact hO s i rfl rfl (by omega) hi c_16
      · refine h_ifne (tgt := 41) dX11_put_35 rfl (fun c => absurd (by decide) c) (fun _ => ?_)
        refine h_bipush dX11_put_38 cb_m12 ?_
        refine h_ireturn dX11_put_40 rfl ?_
        exact h12 s rfl (by omega) c_16 (fun z => b2 ((isIx_iff (by omega)).mpr z))
    · refine h_bipush dX11_put_19 cb_m11 ?_
      refine h_ireturn dX11_put_21 rfl ?_
      exact h11 s rfl (by omega) c_16
  · refine h_ifne (tgt := 9) dX11_put_4 rfl (fun c => absurd (by decide) c) (fun _ => ?_)
    refine h_iconst dX11_put_7 ci_m1 ?_
    refine h_ireturn dX11_put_8 rfl ?_
    exact hB b1
theorem r_put {l : Launch} {dp : Nat} {so : Nat → Int32} {si : Nat → Nat} {it : Nat → Nat → Int64} {I : hI} {J : hJ} {lt tx : Option Nat} {x y u : Int32} {Q : hQ} (hS : rSh I J so si it) (hB : ¬ sh4 x → Q (some (.int (-1))) hSH I J (hRR lt tx)) (h11 : ∀ s, x = nI s → s < 4 → so s = -1 → Q (some (.int (-11))) hSH I J (hRR lt tx)) (h12 : ∀ s, x = nI s → s < 4 → ¬ so s = -1 → ¬ isIx y (si s) → Q (some (.int (-12))) hSH I J (hRR lt tx)) (hO : ∀ s i, x = nI s → y = nI i → s < 4 → i < si s → ¬ so s = -1 → Q (some (.int (nI 1))) hSH I (upJ J 106 (40 * s + i) (nrw u (so s))) (hRR lt tx)) : HC l mX12_put (dp + 2) 0 0 [.ref 82, .int x, .int y, .int u] hSH I J (hRR lt tx) Q := by
  refine HC.of (by decide +kernel) rfl (Nat.le_of_ble_eq_true rfl) ?_
  show HV l mX12_put (dp + 2) 0 0 0 [some (.ref 82), some (.int x), some (.int y), some (.int u)] [] hSH I J (hRR lt tx) Q
  refine h_iload_n dX12_put_0 rfl ?_
  refine h_cS1 dX12_put_1 k6_233 oSX12_isShelf rfl ?_
  refine c_X12_isShelf (fun b1 => ?_) (fun b1 => ?_)
  · obtain ⟨s, rfl, -, hs3⟩ := rng_ex (by omega) (by omega) b1.1 b1.2
    obtain ⟨w1, w2, w3, w4, w5⟩ := hS s (by omega)
    refine h_ifne (tgt := 9) dX12_put_4 rfl (fun _ => ?_) (fun c => absurd c (by decide))
    refine h_aload_n dX12_put_9 rfl ?_
    refine h_getR dX12_put_10 f_X12_74_10 rfl rfl ?_
    refine h_iload_n dX12_put_13 rfl ?_
    refine h_ialdN (j := s) dX12_put_14 rfl rfl (by omega) rfl w1 ?_
    refine h_ifge (tgt := 21) dX12_put_15 rfl (fun c_15 => ?_) (fun c_15 => ?_)
    · refine h_iload_n dX12_put_21 rfl ?_
      refine h_iconst dX12_put_22 ci_0 ?_
      refine h_aload_n dX12_put_23 rfl ?_
      refine h_getR dX12_put_24 f_X12_77_10 rfl rfl ?_
      refine h_iload_n dX12_put_27 rfl ?_
      refine h_ialdN (j := s) dX12_put_28 rfl rfl (by omega) rfl w2 ?_
      refine h_iconst dX12_put_29 ci_1 ?_
      refine h_isub dX12_put_30 ?_
      refine h_cS3 dX12_put_31 k5_172 oSX12_in rfl ?_
      refine c_X12_in (fun b2 => ?_) (fun b2 => ?_)
      · obtain ⟨i, hi, rfl⟩ := (isIx_iff (by omega)).mp b2
        refine h_ifne (tgt := 40) dX12_put_34 rfl (fun _ => ?_) (fun c => absurd c (by decide))
        refine h_aload_n dX12_put_40 rfl ?_
        refine h_getR dX12_put_41 f_X12_80_10 rfl rfl ?_
        refine h_bipush dX12_put_44 cb_40 ?_
        refine h_iload_n dX12_put_46 rfl ?_
        refine h_imulN dX12_put_47 ?_
        refine h_iload_n dX12_put_48 rfl ?_
        refine h_iaddN dX12_put_49 ?_
        refine h_aload_n dX12_put_50 rfl ?_
        refine h_getR dX12_put_51 f_X12_74_10 rfl rfl ?_
        refine h_iload_n dX12_put_54 rfl ?_
        refine h_ialdN (j := s) dX12_put_55 rfl rfl (by omega) rfl w1 ?_
        refine h_ifne (tgt := 65) dX12_put_56 rfl (fun c_56 => ?_) (fun c_56 => ?_)
        · refine h_aload_n dX12_put_65 rfl ?_
          refine h_getR dX12_put_66 f_X12_74_10 rfl rfl ?_
          refine h_iload_n dX12_put_69 rfl ?_
          refine h_ialdN (j := s) dX12_put_70 rfl rfl (by omega) rfl w1 ?_
          refine h_iconst dX12_put_71 ci_1 ?_
          refine h_icmpne (tgt := 81) dX12_put_72 rfl (fun c_72 => ?_) (fun c_72 => ?_)
          · refine h_iload_n dX12_put_81 rfl ?_
            refine h_i2l dX12_put_82 ?_
            refine h_lastN (j := 40 * s + i) dX12_put_83 rfl rfl (by omega) rfl ?_
            refine h_iconst dX12_put_84 ci_1 ?_
            refine h_ireturn dX12_put_85 rfl ?_
            have hq := hO s i rfl rfl (by omega) hi ((soW_neg w4).mp c_15)
            unfold nrw at hq
            rw [if_neg c_56, if_neg (show ¬ so s = 1 from c_72)] at hq
            exact hq
          · refine h_iload_n dX12_put_75 rfl ?_
            refine h_i2s dX12_put_76 ?_
            refine h_i2l dX12_put_77 ?_
            refine h_goto (tgt := 83) dX12_put_78 rfl ?_
            refine h_lastN (j := 40 * s + i) dX12_put_83 rfl rfl (by omega) rfl ?_
            refine h_iconst dX12_put_84 ci_1 ?_
            refine h_ireturn dX12_put_85 rfl ?_
            have hq := hO s i rfl rfl (by omega) hi ((soW_neg w4).mp c_15)
            unfold nrw at hq
            rw [if_neg c_56, if_pos (show so s = 1 from c_72)] at hq
            exact hq
        · refine h_iload_n dX12_put_59 rfl ?_
          refine h_i2b dX12_put_60 ?_
          refine h_i2l dX12_put_61 ?_
          refine h_goto (tgt := 83) dX12_put_62 rfl ?_
          refine h_lastN (j := 40 * s + i) dX12_put_83 rfl rfl (by omega) rfl ?_
          refine h_iconst dX12_put_84 ci_1 ?_
          refine h_ireturn dX12_put_85 rfl ?_
          have hq := hO s i rfl rfl (by omega) hi ((soW_neg w4).mp c_15)
          unfold nrw at hq
          rw [if_pos c_56] at hq
          exact hq
      · refine h_ifne (tgt := 40) dX12_put_34 rfl (fun c => absurd (by decide) c) (fun _ => ?_)
        refine h_bipush dX12_put_37 cb_m12 ?_
        refine h_ireturn dX12_put_39 rfl ?_
        exact h12 s rfl (by omega) ((soW_neg w4).mp c_15) (fun z => b2 ((isIx_iff (by omega)).mpr z))
    · refine h_bipush dX12_put_18 cb_m11 ?_
      refine h_ireturn dX12_put_20 rfl ?_
      exact h11 s rfl (by omega) (Classical.not_not.mp (fun z => c_15 ((soW_neg w4).mpr z)))
  · refine h_ifne (tgt := 9) dX12_put_4 rfl (fun c => absurd (by decide) c) (fun _ => ?_)
    refine h_iconst dX12_put_7 ci_m1 ?_
    refine h_ireturn dX12_put_8 rfl ?_
    exact hB b1
def rfs (a w : Int32) : Int32 := if a = -1 then -11 else if a = w then nI 0 else -13
theorem c_refusal {l : Launch} {dp : Nat} {so : Nat → Int32} {si : Nat → Nat} {it : Nat → Nat → Int64} {I : hI} {J : hJ} {lt tx : Option Nat} {s : Nat} {w : Int32} {Q : hQ} (hS : cSh I J so si it) (hs : s < 4) (hQ : Q (some (.int (rfs (so s) w))) hSH I J (hRR lt tx)) : HC l mX11_refusalOfRow dp 0 0 [.ref 0, .int (nI s), .int w] hSH I J (hRR lt tx) Q := by
  refine HC.of (by decide +kernel) rfl (Nat.le_of_ble_eq_true rfl) ?_
  show HV l mX11_refusalOfRow dp 0 0 0 [some (.ref 0), some (.int (nI s)), some (.int w)] [] hSH I J (hRR lt tx) Q
  obtain ⟨w1, w2, w3, w4, w5⟩ := hS s hs
  refine h_aload_n dX11_refusalOfRow_0 rfl ?_
  refine h_getR dX11_refusalOfRow_1 f_X11_54_9 rfl rfl ?_
  refine h_iload_n dX11_refusalOfRow_4 rfl ?_
  refine h_ialdN (j := s) dX11_refusalOfRow_5 rfl rfl (by omega) rfl w1 ?_
  refine h_iconst dX11_refusalOfRow_6 ci_m1 ?_
  refine h_icmpne (tgt := 13) dX11_refusalOfRow_7 rfl (fun c_7 => ?_) (fun c_7 => ?_)
  · refine h_aload_n dX11_refusalOfRow_13 rfl ?_
    refine h_getR dX11_refusalOfRow_14 f_X11_54_9 rfl rfl ?_
    refine h_iload_n dX11_refusalOfRow_17 rfl ?_
    refine h_ialdN (j := s) dX11_refusalOfRow_18 rfl rfl (by omega) rfl w1 ?_
    refine h_iload_n dX11_refusalOfRow_19 rfl ?_
    refine h_icmpne (tgt := 27) dX11_refusalOfRow_20 rfl (fun c_20 => ?_) (fun c_20 => ?_)
    · refine h_bipush dX11_refusalOfRow_27 cb_m13 ?_
      refine h_ireturn dX11_refusalOfRow_29 rfl ?_
      unfold rfs at hQ
      rw [if_neg c_7, if_neg c_20] at hQ
      exact hQ
    · refine h_iconst dX11_refusalOfRow_23 ci_0 ?_
      refine h_goto (tgt := 29) dX11_refusalOfRow_24 rfl ?_
      refine h_ireturn dX11_refusalOfRow_29 rfl ?_
      unfold rfs at hQ
      rw [if_neg c_7, if_pos c_20] at hQ
      exact hQ
  · refine h_bipush dX11_refusalOfRow_10 cb_m11 ?_
    refine h_ireturn dX11_refusalOfRow_12 rfl ?_
    unfold rfs at hQ
    rw [if_pos c_7] at hQ
    exact hQ
theorem c_item {l : Launch} {dp : Nat} {so : Nat → Int32} {si : Nat → Nat} {it : Nat → Nat → Int64} {I : hI} {J : hJ} {lt tx : Option Nat} {x w y : Int32} {Q : hQ} (hS : cSh I J so si it) (hB : ¬ (sh4 x ∧ nI 0 ≤ w ∧ w ≤ nI 3) → Q (some (.int (-1))) hSH I J (hRR lt tx)) (hR : ∀ s, x = nI s → s < 4 → ¬ rfs (so s) w = 0 → Q (some (.int (rfs (so s) w))) hSH I J (hRR lt tx)) (h12 : ∀ s, x = nI s → s < 4 → rfs (so s) w = 0 → ¬ isIx y (si s) → Q (some (.int (-12))) hSH I J (hRR lt tx)) (hO : ∀ s i, x = nI s → y = nI i → s < 4 → i < si s → rfs (so s) w = 0 → Q (some (.int ((it s i).toInt32))) hSH I J (hRR lt tx)) : HC l mX11_item (dp + 2) 0 0 [.ref 0, .int x, .int w, .int y] hSH I J (hRR lt tx) Q := by
  refine HC.of (by decide +kernel) rfl (Nat.le_of_ble_eq_true rfl) ?_
  show HV l mX11_item (dp + 2) 0 0 0 [some (.ref 0), some (.int x), some (.int w), some (.int y), none] [] hSH I J (hRR lt tx) Q
  refine h_iload_n dX11_item_0 rfl ?_
  refine h_cS1 dX11_item_1 k4_46 oSX11_isSheet rfl ?_
  refine c_X11_isSheet (fun b1 => ?_) (fun b1 => ?_)
  · refine h_ifeq (tgt := 16) dX11_item_4 rfl (fun c => absurd c (by decide)) (fun _ => ?_)
    refine h_iload_n dX11_item_7 rfl ?_
    refine h_iconst dX11_item_8 ci_0 ?_
    refine h_iconst dX11_item_9 ci_3 ?_
    refine h_cS3 dX11_item_10 k2_154 oSX11_within rfl ?_
    refine c_X11_within (fun b3 => ?_) (fun b3 => ?_)
    · obtain ⟨s, rfl, -, hs3⟩ := rng_ex (by omega) (by omega) b1.1 b1.2
      obtain ⟨w1, w2, w3, w4, w5⟩ := hS s (by omega)
      refine h_ifne (tgt := 18) dX11_item_13 rfl (fun _ => ?_) (fun c => absurd c (by decide))
      refine h_aload_n dX11_item_18 rfl ?_
      refine h_iload_n dX11_item_19 rfl ?_
      refine h_iload_n dX11_item_20 rfl ?_
      refine h_cV2 dX11_item_21 k4_60 oVX11_refusalOfRow rfl rfl ?_
      refine c_refusal hS (by omega) ?_
      refine h_istore dX11_item_24 (Nat.le_of_ble_eq_true rfl) ?_
      refine h_iload dX11_item_26 rfl ?_
      refine h_ifeq (tgt := 34) dX11_item_28 rfl (fun c_28 => ?_) (fun c_28 => ?_)
      · refine h_iload_n dX11_item_34 rfl ?_
        refine h_iconst dX11_item_35 ci_0 ?_
        refine h_aload_n dX11_item_36 rfl ?_
        refine h_getR dX11_item_37 f_X11_57_9 rfl rfl ?_
        refine h_iload_n dX11_item_40 rfl ?_
        refine h_ialdN (j := s) dX11_item_41 rfl rfl (by omega) rfl w2 ?_
        refine h_iconst dX11_item_42 ci_1 ?_
        refine h_isub dX11_item_43 ?_
        refine h_cS3 dX11_item_44 k2_154 oSX11_within rfl ?_
        refine c_X11_within (fun b2 => ?_) (fun b2 => ?_)
        · obtain ⟨i, hi, rfl⟩ := (isIx_iff (by omega)).mp b2
          refine h_ifne (tgt := 53) dX11_item_47 rfl (fun _ => ?_) (fun c => absurd c (by decide))
          refine h_aload_n dX11_item_53 rfl ?_
          refine h_getR dX11_item_54 f_X11_60_9 rfl rfl ?_
          refine h_iload_n dX11_item_57 rfl ?_
          refine h_bipush dX11_item_58 cb_40 ?_
          refine h_imulN dX11_item_60 ?_
          refine h_iload_n dX11_item_61 rfl ?_
          refine h_iaddN dX11_item_62 ?_
          refine h_laldN (j := 40 * s + i) dX11_item_63 rfl (by rw [Nat.mul_comm]) (by omega) rfl (w5 i hi) ?_
          refine h_l2i dX11_item_64 ?_
          refine h_ireturn dX11_item_65 rfl ?_
          exact hO s i rfl rfl (by omega) hi c_28
        · refine h_ifne (tgt := 53) dX11_item_47 rfl (fun c => absurd (by decide) c) (fun _ => ?_)
          refine h_bipush dX11_item_50 cb_m12 ?_
          refine h_ireturn dX11_item_52 rfl ?_
          exact h12 s rfl (by omega) c_28 (fun z => b2 ((isIx_iff (by omega)).mpr z))
      · refine h_iload dX11_item_31 rfl ?_
        refine h_ireturn dX11_item_33 rfl ?_
        exact hR s rfl (by omega) c_28
    · refine h_ifne (tgt := 18) dX11_item_13 rfl (fun c => absurd (by decide) c) (fun _ => ?_)
      refine h_iconst dX11_item_16 ci_m1 ?_
      refine h_ireturn dX11_item_17 rfl ?_
      exact hB (fun z => b3 z.2)
  · refine h_ifeq (tgt := 16) dX11_item_4 rfl (fun _ => ?_) (fun c => absurd (by decide) c)
    refine h_iconst dX11_item_16 ci_m1 ?_
    refine h_ireturn dX11_item_17 rfl ?_
    exact hB (fun z => b1 z.1)
theorem r_refusal {l : Launch} {dp : Nat} {so : Nat → Int32} {si : Nat → Nat} {it : Nat → Nat → Int64} {I : hI} {J : hJ} {lt tx : Option Nat} {s : Nat} {w : Int32} {Q : hQ} (hS : rSh I J so si it) (hs : s < 4) (hQ : Q (some (.int (rfs (so s) w))) hSH I J (hRR lt tx)) : HC l mX12_lacksSort dp 0 0 [.ref 82, .int (nI s), .int w] hSH I J (hRR lt tx) Q := by
  refine HC.of (by decide +kernel) rfl (Nat.le_of_ble_eq_true rfl) ?_
  show HV l mX12_lacksSort dp 0 0 0 [some (.ref 82), some (.int (nI s)), some (.int w)] [] hSH I J (hRR lt tx) Q
  obtain ⟨w1, w2, w3, w4, w5⟩ := hS s hs
  refine h_aload_n dX12_lacksSort_0 rfl ?_
  refine h_getR dX12_lacksSort_1 f_X12_74_10 rfl rfl ?_
  refine h_iload_n dX12_lacksSort_4 rfl ?_
  refine h_ialdN (j := s) dX12_lacksSort_5 rfl rfl (by omega) rfl w1 ?_
  refine h_ifge (tgt := 14) dX12_lacksSort_6 rfl (fun c_6 => ?_) (fun c_6 => ?_)
  · refine h_aload_n dX12_lacksSort_14 rfl ?_
    refine h_getR dX12_lacksSort_15 f_X12_74_10 rfl rfl ?_
    refine h_iload_n dX12_lacksSort_18 rfl ?_
    refine h_ialdN (j := s) dX12_lacksSort_19 rfl rfl (by omega) rfl w1 ?_
    refine h_iload_n dX12_lacksSort_20 rfl ?_
    refine h_icmpeq (tgt := 29) dX12_lacksSort_21 rfl (fun c_21 => ?_) (fun c_21 => ?_)
    · refine h_iconst dX12_lacksSort_29 ci_0 ?_
      refine h_ireturn dX12_lacksSort_30 rfl ?_
      unfold rfs at hQ
      rw [if_neg ((soW_neg w4).mp c_6), if_pos c_21] at hQ
      exact hQ
    · refine h_bipush dX12_lacksSort_24 cb_m13 ?_
      refine h_goto (tgt := 30) dX12_lacksSort_26 rfl ?_
      refine h_ireturn dX12_lacksSort_30 rfl ?_
      unfold rfs at hQ
      rw [if_neg ((soW_neg w4).mp c_6), if_neg c_21] at hQ
      exact hQ
  · refine h_bipush dX12_lacksSort_9 cb_m11 ?_
    refine h_goto (tgt := 30) dX12_lacksSort_11 rfl ?_
    refine h_ireturn dX12_lacksSort_30 rfl ?_
    unfold rfs at hQ
    rw [if_pos (Classical.not_not.mp (fun z => c_6 ((soW_neg w4).mpr z)))] at hQ
    exact hQ
theorem r_item {l : Launch} {dp : Nat} {so : Nat → Int32} {si : Nat → Nat} {it : Nat → Nat → Int64} {I : hI} {J : hJ} {lt tx : Option Nat} {x w y : Int32} {Q : hQ} (hS : rSh I J so si it) (hB : ¬ (sh4 x ∧ nI 0 ≤ w ∧ w ≤ nI 3) → Q (some (.int (-1))) hSH I J (hRR lt tx)) (hR : ∀ s, x = nI s → s < 4 → ¬ rfs (so s) w = 0 → Q (some (.int (rfs (so s) w))) hSH I J (hRR lt tx)) (h12 : ∀ s, x = nI s → s < 4 → rfs (so s) w = 0 → ¬ isIx y (si s) → Q (some (.int (-12))) hSH I J (hRR lt tx)) (hO : ∀ s i, x = nI s → y = nI i → s < 4 → i < si s → rfs (so s) w = 0 → Q (some (.int ((it s i).toInt32))) hSH I J (hRR lt tx)) : HC l mX12_item (dp + 2) 0 0 [.ref 82, .int x, .int w, .int y] hSH I J (hRR lt tx) Q := by
  refine HC.of (by decide +kernel) rfl (Nat.le_of_ble_eq_true rfl) ?_
  show HV l mX12_item (dp + 2) 0 0 0 [some (.ref 82), some (.int x), some (.int w), some (.int y), none] [] hSH I J (hRR lt tx) Q
  refine h_iload_n dX12_item_0 rfl ?_
  refine h_cS1 dX12_item_1 k6_233 oSX12_isShelf rfl ?_
  refine c_X12_isShelf (fun b1 => ?_) (fun b1 => ?_)
  · refine h_ifeq (tgt := 16) dX12_item_4 rfl (fun c => absurd c (by decide)) (fun _ => ?_)
    refine h_iload_n dX12_item_7 rfl ?_
    refine h_iconst dX12_item_8 ci_0 ?_
    refine h_iconst dX12_item_9 ci_3 ?_
    refine h_cS3 dX12_item_10 k5_172 oSX12_in rfl ?_
    refine c_X12_in (fun b3 => ?_) (fun b3 => ?_)
    · obtain ⟨s, rfl, -, hs3⟩ := rng_ex (by omega) (by omega) b1.1 b1.2
      obtain ⟨w1, w2, w3, w4, w5⟩ := hS s (by omega)
      refine h_ifne (tgt := 18) dX12_item_13 rfl (fun _ => ?_) (fun c => absurd c (by decide))
      refine h_aload_n dX12_item_18 rfl ?_
      refine h_iload_n dX12_item_19 rfl ?_
      refine h_iload_n dX12_item_20 rfl ?_
      refine h_cV2 dX12_item_21 k7_4 oVX12_lacksSort rfl rfl ?_
      refine r_refusal hS (by omega) ?_
      refine h_istore dX12_item_24 (Nat.le_of_ble_eq_true rfl) ?_
      refine h_iload dX12_item_26 rfl ?_
      refine h_ifeq (tgt := 34) dX12_item_28 rfl (fun c_28 => ?_) (fun c_28 => ?_)
      · refine h_iload_n dX12_item_34 rfl ?_
        refine h_iconst dX12_item_35 ci_0 ?_
        refine h_aload_n dX12_item_36 rfl ?_
        refine h_getR dX12_item_37 f_X12_77_10 rfl rfl ?_
        refine h_iload_n dX12_item_40 rfl ?_
        refine h_ialdN (j := s) dX12_item_41 rfl rfl (by omega) rfl w2 ?_
        refine h_iconst dX12_item_42 ci_1 ?_
        refine h_isub dX12_item_43 ?_
        refine h_cS3 dX12_item_44 k5_172 oSX12_in rfl ?_
        refine c_X12_in (fun b2 => ?_) (fun b2 => ?_)
        · obtain ⟨i, hi, rfl⟩ := (isIx_iff (by omega)).mp b2
          refine h_ifeq (tgt := 65) dX12_item_47 rfl (fun c => absurd c (by decide)) (fun _ => ?_)
          refine h_aload_n dX12_item_50 rfl ?_
          refine h_getR dX12_item_51 f_X12_80_10 rfl rfl ?_
          refine h_bipush dX12_item_54 cb_40 ?_
          refine h_iload_n dX12_item_56 rfl ?_
          refine h_imulN dX12_item_57 ?_
          refine h_iload_n dX12_item_58 rfl ?_
          refine h_iaddN dX12_item_59 ?_
          refine h_laldN (j := 40 * s + i) dX12_item_60 rfl rfl (by omega) rfl (w5 i hi) ?_
          refine h_l2i dX12_item_61 ?_
          refine h_goto (tgt := 67) dX12_item_62 rfl ?_
          refine h_ireturn dX12_item_67 rfl ?_
          exact hO s i rfl rfl (by omega) hi c_28
        · refine h_ifeq (tgt := 65) dX12_item_47 rfl (fun _ => ?_) (fun c => absurd (by decide) c)
          refine h_bipush dX12_item_65 cb_m12 ?_
          refine h_ireturn dX12_item_67 rfl ?_
          exact h12 s rfl (by omega) c_28 (fun z => b2 ((isIx_iff (by omega)).mpr z))
      · refine h_iload dX12_item_31 rfl ?_
        refine h_ireturn dX12_item_33 rfl ?_
        exact hR s rfl (by omega) c_28
    · refine h_ifne (tgt := 18) dX12_item_13 rfl (fun c => absurd (by decide) c) (fun _ => ?_)
      refine h_iconst dX12_item_16 ci_m1 ?_
      refine h_ireturn dX12_item_17 rfl ?_
      exact hB (fun z => b3 z.2)
  · refine h_ifeq (tgt := 16) dX12_item_4 rfl (fun _ => ?_) (fun c => absurd (by decide) c)
    refine h_iconst dX12_item_16 ci_m1 ?_
    refine h_ireturn dX12_item_17 rfl ?_
    exact hB (fun z => b1 z.1)
