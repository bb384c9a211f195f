def JF (J J' : hJ) (c s k : Nat) : Prop := (∀ x, x ≠ c → J' x = J x) ∧ (∀ t j, j < 40 → t ≠ s → J' c (40 * t + j) = J c (40 * t + j)) ∧ ∀ j, j < k → J' c (40 * s + j) = 0
theorem JF_0 (J : hJ) (c s : Nat) : JF J J c s 0 := ⟨fun _ _ => rfl, fun _ _ _ _ => rfl, fun j hj => by omega⟩
theorem JF_st {J J' : hJ} {c s k : Nat} (h : JF J J' c s k) (hk : k < 40) : JF J (upJ J' c (40 * s + k) 0) c s (k + 1) := by
  obtain ⟨h1, h2, h3⟩ := h
  refine ⟨fun x hx => ?_, fun t j hj ht => ?_, fun j hj => ?_⟩
  · unfold upJ; rw [if_neg hx]; exact h1 x hx
  · unfold upJ; rw [if_pos rfl]
    simp only [vp_updL]
    rw [if_neg (by omega)]
    exact h2 t j hj ht
  · unfold upJ; rw [if_pos rfl]
    simp only [vp_updL]
    by_cases e : j = k
    · rw [if_pos (by omega)]
    · rw [if_neg (by omega)]; exact h3 j (by omega)
def shOk (x w n : Int32) : Prop := sh4 x ∧ (-1 ≤ w ∧ w ≤ nI 3) ∧ (w = -1 ∨ n ≤ nI 40)
theorem w_neg {w : Int32} (h : -1 ≤ w ∧ w ≤ nI 3) : (0 ≤ w ↔ ¬ w = -1) := by
  constructor
  · intro h1 h2; rw [h2] at h1; exact absurd h1 (by decide)
  · intro h1
    have a := Int32.le_iff_toInt_le.mp h.1
    have b : ¬ w.toInt = -1 := fun z => h1 (Int32.toInt_inj.mp (by rw [z]; decide))
    rw [show (-1 : Int32).toInt = -1 by decide] at a
    rw [Int32.le_iff_toInt_le, show (0 : Int32).toInt = 0 by decide]
    omega
theorem n_ex {n : Int32} (h0 : 0 ≤ n) (h : n ≤ nI 40) : ∃ k, n = nI k ∧ k ≤ 40 := by
  obtain ⟨k, h1, -, h2⟩ := rng_ex (a := 0) (b := 40) (by omega) (by omega) (show nI 0 ≤ n from h0) h
  exact ⟨k, h1, h2⟩
theorem c_sheet {l : Launch} {dp : Nat} {I : hI} {J : hJ} {lt tx : Option Nat} {x w n : Int32} {Q : hQ} (hB : ¬ shOk x w n → Q (some (.int (-1))) hSH I J (hRR lt tx)) (h14 : shOk x w n → ¬ w = -1 → n < 0 → Q (some (.int (-14))) hSH I J (hRR lt tx)) (hM : ∀ s J', x = nI s → s < 4 → w = -1 → JF J J' 65 s 0 → Q (some (.int (nI 1))) hSH (upI (upI I 63 s (-1)) 64 s (nI 0)) J' (hRR lt tx)) (hO : ∀ s k J', x = nI s → n = nI k → s < 4 → k ≤ 40 → ¬ w = -1 → (-1 ≤ w ∧ w ≤ nI 3) → JF J J' 65 s k → Q (some (.int (nI 1))) hSH (upI (upI I 63 s w) 64 s (nI k)) J' (hRR lt tx)) : HC l mX11_sheet (dp + 2) 0 0 [.ref 0, .int x, .int w, .int n] hSH I J (hRR lt tx) Q := by
  refine HC.of (by decide +kernel) rfl (Nat.le_of_ble_eq_true rfl) ?_
  have Lo : ∀ (s k : Nat) (I2 : hI), s < 4 → k ≤ 40 → (∀ J', JF J J' 65 s k → Q (some (.int (nI 1))) hSH I2 J' (hRR lt tx)) → ∀ (m j : Nat) (J2 : hJ), k - j < m → j ≤ k → JF J J2 65 s j → HV l mX11_sheet (dp + 2) 0 0 71 [some (.ref 0), some (.int (nI s)), some (.int w), some (.int (nI k)), some (.int (nI j))] [] hSH I2 J2 (hRR lt tx) Q := by
    intro s k I2 hs hk hX m
    induction m with
    | zero => intro j J2 h1 h2 hJ; omega
    | succ m ih =>
      intro j J2 h1 h2 hJ
      refine h_iload dX11_sheet_71 rfl ?_
      refine h_iload_n dX11_sheet_73 rfl ?_
      refine h_icmpge (tgt := 96) dX11_sheet_74 rfl (fun c_74 => ?_) (fun c_74 => ?_)
      · rw [nI_leI (by omega) (by omega)] at c_74
        refine h_iconst dX11_sheet_96 ci_1 ?_
        refine h_ireturn dX11_sheet_97 rfl ?_
        have ek : j = k := by omega
        subst ek
        exact hX _ hJ
      · rw [nI_leI (by omega) (by omega)] at c_74
        refine h_aload_n dX11_sheet_77 rfl ?_
        refine h_getR dX11_sheet_78 f_X11_60_9 rfl rfl ?_
        refine h_iload_n dX11_sheet_81 rfl ?_
        refine h_bipush dX11_sheet_82 cb_40 ?_
        refine h_imulN dX11_sheet_84 ?_
        refine h_iload dX11_sheet_85 rfl ?_
        refine h_iaddN dX11_sheet_87 ?_
        refine h_lconst (v := 0) dX11_sheet_88 rfl ?_
        refine h_lastN (j := 40 * s + j) dX11_sheet_89 rfl (by rw [Nat.mul_comm]) (by omega) rfl ?_
        refine h_iinc (v := nI (j + 1)) dX11_sheet_90 rfl (nI_1 _) (Nat.le_of_ble_eq_true rfl) ?_
        refine h_goto (tgt := 71) dX11_sheet_93 rfl ?_
        exact ih (j + 1) _ (by omega) (by omega) (JF_st hJ (by omega))
  show HV l mX11_sheet (dp + 2) 0 0 0 [some (.ref 0), some (.int x), some (.int w), some (.int n), none] [] hSH I J (hRR lt tx) Q
  refine h_iload_n dX11_sheet_0 rfl ?_
  refine h_cS1 dX11_sheet_1 k4_46 oSX11_isSheet rfl ?_
  refine c_X11_isSheet (fun b1 => ?_) (fun b1 => ?_)
  · refine h_ifeq (tgt := 16) dX11_sheet_4 rfl (fun c => absurd c (by decide)) (fun _ => ?_)
    refine h_iload_n dX11_sheet_7 rfl ?_
    refine h_iconst dX11_sheet_8 ci_m1 ?_
    refine h_iconst dX11_sheet_9 ci_3 ?_
    refine h_cS3 dX11_sheet_10 k2_154 oSX11_within rfl ?_
    refine c_X11_within (fun b2 => ?_) (fun b2 => ?_)
    · have b0 : sh4 x := b1
      obtain ⟨s, rfl, -, hs3⟩ := rng_ex (by omega) (by omega) b1.1 b1.2
      refine h_ifne (tgt := 18) dX11_sheet_13 rfl (fun _ => ?_) (fun c => absurd c (by decide))
      refine h_iload_n dX11_sheet_18 rfl ?_
      refine h_iconst dX11_sheet_19 ci_m1 ?_
      refine h_icmpne (tgt := 39) dX11_sheet_20 rfl (fun c_20 => ?_) (fun c_20 => ?_)
      · refine h_iload_n dX11_sheet_39 rfl ?_
        refine h_bipush dX11_sheet_40 cb_40 ?_
        refine h_icmple (tgt := 47) dX11_sheet_42 rfl (fun c_42 => ?_) (fun c_42 => ?_)
        · refine h_iload_n dX11_sheet_47 rfl ?_
          refine h_ifge (tgt := 54) dX11_sheet_48 rfl (fun c_48 => ?_) (fun c_48 => ?_)
          · obtain ⟨k, rfl, hk⟩ := n_ex c_48 c_42
            refine h_aload_n dX11_sheet_54 rfl ?_
            refine h_getR dX11_sheet_55 f_X11_54_9 rfl rfl ?_
            refine h_iload_n dX11_sheet_58 rfl ?_
            refine h_iload_n dX11_sheet_59 rfl ?_
            refine h_iastN (j := s) dX11_sheet_60 rfl rfl (by omega) rfl ?_
            refine h_aload_n dX11_sheet_61 rfl ?_
            refine h_getR dX11_sheet_62 f_X11_57_9 rfl rfl ?_
            refine h_iload_n dX11_sheet_65 rfl ?_
            refine h_iload_n dX11_sheet_66 rfl ?_
            refine h_iastN (j := s) dX11_sheet_67 rfl rfl (by omega) rfl ?_
            refine h_iconst dX11_sheet_68 ci_0 ?_
            refine h_istore dX11_sheet_69 (Nat.le_of_ble_eq_true rfl) ?_
            exact Lo s k _ (by omega) hk (fun J' hJ => hO s k J' rfl rfl (by omega) hk c_20 b2 hJ) (k + 1) 0 _ (by omega) (by omega) (JF_0 J 65 s)
          · refine h_bipush dX11_sheet_51 cb_m14 ?_
            refine h_ireturn dX11_sheet_53 rfl ?_
            exact h14 ⟨b0, b2, .inr c_42⟩ c_20 (Int32.not_le.mp c_48)
        · refine h_iconst dX11_sheet_45 ci_m1 ?_
          refine h_ireturn dX11_sheet_46 rfl ?_
          exact hB (fun z => z.2.2.elim c_20 c_42)
      · refine h_aload_n dX11_sheet_23 rfl ?_
        refine h_getR dX11_sheet_24 f_X11_54_9 rfl rfl ?_
        refine h_iload_n dX11_sheet_27 rfl ?_
        refine h_iconst dX11_sheet_28 ci_m1 ?_
        refine h_iastN (j := s) dX11_sheet_29 rfl rfl (by omega) rfl ?_
        refine h_aload_n dX11_sheet_30 rfl ?_
        refine h_getR dX11_sheet_31 f_X11_57_9 rfl rfl ?_
        refine h_iload_n dX11_sheet_34 rfl ?_
        refine h_iconst dX11_sheet_35 ci_0 ?_
        refine h_iastN (j := s) dX11_sheet_36 rfl rfl (by omega) rfl ?_
        refine h_iconst dX11_sheet_37 ci_1 ?_
        refine h_ireturn dX11_sheet_38 rfl ?_
        rw [show (nI 0) = nI 0 from rfl]
        subst c_20
        exact hM s _ rfl (by omega) rfl (JF_0 J 65 s)
    · refine h_ifne (tgt := 18) dX11_sheet_13 rfl (fun c => absurd (by decide) c) (fun _ => ?_)
      refine h_iconst dX11_sheet_16 ci_m1 ?_
      refine h_ireturn dX11_sheet_17 rfl ?_
      exact hB (fun z => b2 z.2.1)
  · refine h_ifeq (tgt := 16) dX11_sheet_4 rfl (fun _ => ?_) (fun c => absurd (by decide) c)
    refine h_iconst dX11_sheet_16 ci_m1 ?_
    refine h_ireturn dX11_sheet_17 rfl ?_
    exact hB (fun z => b1 z.1)
theorem r_sheet {l : Launch} {dp : Nat} {I : hI} {J : hJ} {lt tx : Option Nat} {x w n : Int32} {Q : hQ} (hB : ¬ shOk x w n → Q (some (.int (-1))) hSH I J (hRR lt tx)) (h14 : shOk x w n → ¬ w = -1 → n < 0 → Q (some (.int (-14))) hSH I J (hRR lt tx)) (hM : ∀ s J', x = nI s → s < 4 → w = -1 → JF J J' 106 s 0 → Q (some (.int (nI 1))) hSH (upI (upI I 104 s (-1)) 105 s (nI 0)) J' (hRR lt tx)) (hO : ∀ s k J', x = nI s → n = nI k → s < 4 → k ≤ 40 → ¬ w = -1 → (-1 ≤ w ∧ w ≤ nI 3) → JF J J' 106 s k → Q (some (.int (nI 1))) hSH (upI (upI I 104 s w) 105 s (nI k)) J' (hRR lt tx)) : HC l mX12_sheet (dp + 2) 0 0 [.ref 82, .int x, .int w, .int n] hSH I J (hRR lt tx) Q := by
  refine HC.of (by decide +kernel) rfl (Nat.le_of_ble_eq_true rfl) ?_
  have Lo : ∀ (s : Nat) (I2 : hI), s < 4 → (∀ J', JF J J' 106 s 40 → Q (some (.int (nI 1))) hSH I2 J' (hRR lt tx)) → ∀ (m j : Nat) (J2 : hJ), 40 - j < m → j ≤ 40 → JF J J2 106 s j → HV l mX12_sheet (dp + 2) 0 0 64 [some (.ref 82), some (.int (nI s)), some (.int w), some (.int n), some (.int (nI j))] [] hSH I2 J2 (hRR lt tx) Q := by
    intro s I2 hs hX m
    induction m with
    | zero => intro j J2 h1 h2 hJ; omega
    | succ m ih =>
      intro j J2 h1 h2 hJ
      refine h_iload dX12_sheet_64 rfl ?_
      refine h_bipush dX12_sheet_66 cb_40 ?_
      refine h_icmpge (tgt := 90) dX12_sheet_68 rfl (fun c_68 => ?_) (fun c_68 => ?_)
      · rw [nI_leI (by omega) (by omega)] at c_68
        refine h_iconst dX12_sheet_90 ci_1 ?_
        refine h_ireturn dX12_sheet_91 rfl ?_
        have ek : j = 40 := by omega
        subst ek
        exact hX _ hJ
      · rw [nI_leI (by omega) (by omega)] at c_68
        refine h_aload_n dX12_sheet_71 rfl ?_
        refine h_getR dX12_sheet_72 f_X12_80_10 rfl rfl ?_
        refine h_bipush dX12_sheet_75 cb_40 ?_
        refine h_iload_n dX12_sheet_77 rfl ?_
        refine h_imulN dX12_sheet_78 ?_
        refine h_iload dX12_sheet_79 rfl ?_
        refine h_iaddN dX12_sheet_81 ?_
        refine h_lconst (v := 0) dX12_sheet_82 rfl ?_
        refine h_lastN (j := 40 * s + j) dX12_sheet_83 rfl rfl (by omega) rfl ?_
        refine h_iinc (v := nI (j + 1)) dX12_sheet_84 rfl (nI_1 _) (Nat.le_of_ble_eq_true rfl) ?_
        refine h_goto (tgt := 64) dX12_sheet_87 rfl ?_
        exact ih (j + 1) _ (by omega) (by omega) (JF_st hJ (by omega))
  show HV l mX12_sheet (dp + 2) 0 0 0 [some (.ref 82), some (.int x), some (.int w), some (.int n), none] [] hSH I J (hRR lt tx) Q
  refine h_iload_n dX12_sheet_0 rfl ?_
  refine h_cS1 dX12_sheet_1 k6_233 oSX12_isShelf rfl ?_
  refine c_X12_isShelf (fun b1 => ?_) (fun b1 => ?_)
  · refine h_ifeq (tgt := 26) dX12_sheet_4 rfl (fun c => absurd c (by decide)) (fun _ => ?_)
    refine h_iload_n dX12_sheet_7 rfl ?_
    refine h_iconst dX12_sheet_8 ci_m1 ?_
    refine h_iconst dX12_sheet_9 ci_3 ?_
    refine h_cS3 dX12_sheet_10 k5_172 oSX12_in rfl ?_
    refine c_X12_in (fun b2 => ?_) (fun b2 => ?_)
    · have b0 : sh4 x := b1
      obtain ⟨s, rfl, -, hs3⟩ := rng_ex (by omega) (by omega) b1.1 b1.2
      refine h_ifeq (tgt := 26) dX12_sheet_13 rfl (fun c => absurd c (by decide)) (fun _ => ?_)
      refine h_iload_n dX12_sheet_16 rfl ?_
      refine h_iflt (tgt := 28) dX12_sheet_17 rfl (fun c_17 => ?_) (fun c_17 => ?_)
      · have hw1 : w = -1 := Classical.not_not.mp (fun z => absurd c_17 (Int32.not_lt.mpr ((w_neg b2).mpr z)))
        refine h_iload_n dX12_sheet_28 rfl ?_
        refine h_iflt (tgt := 39) dX12_sheet_29 rfl (fun c_29 => ?_) (fun c_29 => ?_)
        · refine h_aload_n dX12_sheet_39 rfl ?_
          refine h_getR dX12_sheet_40 f_X12_74_10 rfl rfl ?_
          refine h_iload_n dX12_sheet_43 rfl ?_
          refine h_iload_n dX12_sheet_44 rfl ?_
          refine h_iastN (j := s) dX12_sheet_45 rfl rfl (by omega) rfl ?_
          refine h_aload_n dX12_sheet_46 rfl ?_
          refine h_getR dX12_sheet_47 f_X12_77_10 rfl rfl ?_
          refine h_iload_n dX12_sheet_50 rfl ?_
          refine h_iload_n dX12_sheet_51 rfl ?_
          refine h_ifge (tgt := 59) dX12_sheet_52 rfl (fun c_52 => ?_) (fun c_52 => ?_)
          · exact absurd c_17 (Int32.not_lt.mpr c_52)
          · refine h_iconst dX12_sheet_55 ci_0 ?_
            refine h_goto (tgt := 60) dX12_sheet_56 rfl ?_
            refine h_iastN (j := s) dX12_sheet_60 rfl rfl (by omega) rfl ?_
            refine h_iconst dX12_sheet_61 ci_0 ?_
            refine h_istore dX12_sheet_62 (Nat.le_of_ble_eq_true rfl) ?_
            subst hw1
            exact Lo s _ (by omega) (fun J' hJ => hM s J' rfl (by omega) rfl ⟨hJ.1, hJ.2.1, fun j hj => by omega⟩) 41 0 _ (by omega) (by omega) (JF_0 J 106 s)
        · exact absurd c_17 c_29
      · have hw0 : ¬ w = -1 := (w_neg b2).mp (Int32.not_lt.mp c_17)
        refine h_iload_n dX12_sheet_20 rfl ?_
        refine h_bipush dX12_sheet_21 cb_40 ?_
        refine h_icmple (tgt := 28) dX12_sheet_23 rfl (fun c_23 => ?_) (fun c_23 => ?_)
        · refine h_iload_n dX12_sheet_28 rfl ?_
          refine h_iflt (tgt := 39) dX12_sheet_29 rfl (fun c_29 => ?_) (fun c_29 => ?_)
          · exact absurd c_29 c_17
          · refine h_iload_n dX12_sheet_32 rfl ?_
            refine h_ifge (tgt := 39) dX12_sheet_33 rfl (fun c_33 => ?_) (fun c_33 => ?_)
            · obtain ⟨k, rfl, hk⟩ := n_ex c_33 c_23
              refine h_aload_n dX12_sheet_39 rfl ?_
              refine h_getR dX12_sheet_40 f_X12_74_10 rfl rfl ?_
              refine h_iload_n dX12_sheet_43 rfl ?_
              refine h_iload_n dX12_sheet_44 rfl ?_
              refine h_iastN (j := s) dX12_sheet_45 rfl rfl (by omega) rfl ?_
              refine h_aload_n dX12_sheet_46 rfl ?_
              refine h_getR dX12_sheet_47 f_X12_77_10 rfl rfl ?_
              refine h_iload_n dX12_sheet_50 rfl ?_
              refine h_iload_n dX12_sheet_51 rfl ?_
              refine h_ifge (tgt := 59) dX12_sheet_52 rfl (fun c_52 => ?_) (fun c_52 => ?_)
              · refine h_iload_n dX12_sheet_59 rfl ?_
                refine h_iastN (j := s) dX12_sheet_60 rfl rfl (by omega) rfl ?_
                refine h_iconst dX12_sheet_61 ci_0 ?_
                refine h_istore dX12_sheet_62 (Nat.le_of_ble_eq_true rfl) ?_
                exact Lo s _ (by omega) (fun J' hJ => hO s k J' rfl rfl (by omega) hk hw0 b2 ⟨hJ.1, hJ.2.1, fun j hj => hJ.2.2 j (by omega)⟩) 41 0 _ (by omega) (by omega) (JF_0 J 106 s)
              · exact absurd c_52 (fun z => c_17 (Int32.not_le.mp z))
            · refine h_bipush dX12_sheet_36 cb_m14 ?_
              refine h_ireturn dX12_sheet_38 rfl ?_
              exact h14 ⟨b0, b2, .inr c_23⟩ hw0 (Int32.not_le.mp c_33)
        · refine h_iconst dX12_sheet_26 ci_m1 ?_
          refine h_ireturn dX12_sheet_27 rfl ?_
          exact hB (fun z => z.2.2.elim hw0 c_23)
    · refine h_ifeq (tgt := 26) dX12_sheet_13 rfl (fun _ => ?_) (fun c => absurd (by decide) c)
      refine h_iconst dX12_sheet_26 ci_m1 ?_
      refine h_ireturn dX12_sheet_27 rfl ?_
      exact hB (fun z => b2 z.2.1)
  · refine h_ifeq (tgt := 26) dX12_sheet_4 rfl (fun _ => ?_) (fun c => absurd (by decide) c)
    refine h_iconst dX12_sheet_26 ci_m1 ?_
    refine h_ireturn dX12_sheet_27 rfl ?_
    exact hB (fun z => b1 z.1)
