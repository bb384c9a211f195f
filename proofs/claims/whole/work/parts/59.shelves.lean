/-- the shelves of both: kind (0 sight, 1 point, 2 row, 3 nothing), number, size -/
def cH (I : hI) (sk : Nat → Nat) (sm sz : Nat → Int32) : Prop := ∀ s, s < 4 → sk s ≤ 3 ∧ I 66 s = nI (sk s) ∧ (sk s ≤ 2 → I 67 s = sm s) ∧ (sk s = 2 → I 68 s = sz s ∧ ∃ k, k ≤ 3 ∧ sm s = nI k)
def rH (I : hI) (sk : Nat → Nat) (sm sz : Nat → Int32) : Prop := ∀ s, s < 4 → sk s ≤ 3 ∧ I 107 s = (if sk s = 3 then -1 else nI (sk s)) ∧ (sk s ≤ 2 → I 108 s = sm s) ∧ (sk s = 2 → I 109 s = sz s ∧ ∃ k, k ≤ 3 ∧ sm s = nI k)
def undP (a w : Int32) : Prop := if w = nI 0 then (nI 1 ≤ a ∧ a ≤ nI 5) else if w = nI 1 then (a = nI 1 ∨ a = nI 4) else if w = nI 2 then (a = nI 2 ∨ a = nI 5) else a = w
theorem c_isUnder {l : Launch} {dp : Nat} {a w : Int32} {sh : hS} {I : hI} {J : hJ} {R : hR} {Q : hQ} (h1 : undP a w → Q (some (.int (nI 1))) sh I J R) (h0 : ¬ undP a w → Q (some (.int (nI 0))) sh I J R) : HC l mX11_isUnder (dp + 2) 0 0 [.int a, .int w] sh I J R Q := by
  refine HC.of (by decide +kernel) rfl (Nat.le_of_ble_eq_true rfl) ?_
  show HV l mX11_isUnder (dp + 2) 0 0 0 [some (.int a), some (.int w)] [] sh I J R Q
  refine h_iload_n dX11_isUnder_0 rfl ?_
  by_cases s0 : w = nI 0
  · refine h_tableIn (off := 27) (tgt := 28) dX11_isUnder_1 (by rw [s0]; decide) (by rw [s0]; decide) (by rw [s0]; decide) rfl ?_
    refine h_iload_n dX11_isUnder_28 rfl ?_
    refine h_cS1 dX11_isUnder_29 k3_23 oSX11_isKind rfl ?_
    refine c_X11_isKind (fun b1 => ?_) (fun b1 => ?_)
    · refine h_zreturn dX11_isUnder_32 rfl (by decide) ?_
      unfold undP at h1 h0
      rw [if_pos s0] at h1 h0
      exact h1 b1
    · refine h_zreturn dX11_isUnder_32 rfl (by decide) ?_
      unfold undP at h1 h0
      rw [if_pos s0] at h1 h0
      exact h0 b1
  by_cases s1 : w = nI 1
  · refine h_tableIn (off := 32) (tgt := 33) dX11_isUnder_1 (by rw [s1]; decide) (by rw [s1]; decide) (by rw [s1]; decide) rfl ?_
    refine h_iload_n dX11_isUnder_33 rfl ?_
    refine h_iconst dX11_isUnder_34 ci_1 ?_
    refine h_icmpeq (tgt := 43) dX11_isUnder_35 rfl (fun c_35 => ?_) (fun c_35 => ?_)
    · refine h_iconst dX11_isUnder_43 ci_1 ?_
      refine h_goto (tgt := 48) dX11_isUnder_44 rfl ?_
      refine h_zreturn dX11_isUnder_48 rfl (by decide) ?_
      unfold undP at h1 h0
      rw [if_neg s0, if_pos s1] at h1 h0
      exact h1 (.inl c_35)
    · refine h_iload_n dX11_isUnder_38 rfl ?_
      refine h_iconst dX11_isUnder_39 ci_4 ?_
      refine h_icmpne (tgt := 47) dX11_isUnder_40 rfl (fun c_40 => ?_) (fun c_40 => ?_)
      · refine h_iconst dX11_isUnder_47 ci_0 ?_
        refine h_zreturn dX11_isUnder_48 rfl (by decide) ?_
        unfold undP at h1 h0
        rw [if_neg s0, if_pos s1] at h1 h0
        exact h0 (fun z => z.elim c_35 c_40)
      · refine h_iconst dX11_isUnder_43 ci_1 ?_
        refine h_goto (tgt := 48) dX11_isUnder_44 rfl ?_
        refine h_zreturn dX11_isUnder_48 rfl (by decide) ?_
        unfold undP at h1 h0
        rw [if_neg s0, if_pos s1] at h1 h0
        exact h1 (.inr c_40)
  by_cases s2 : w = nI 2
  · refine h_tableIn (off := 48) (tgt := 49) dX11_isUnder_1 (by rw [s2]; decide) (by rw [s2]; decide) (by rw [s2]; decide) rfl ?_
    refine h_iload_n dX11_isUnder_49 rfl ?_
    refine h_iconst dX11_isUnder_50 ci_2 ?_
    refine h_icmpeq (tgt := 59) dX11_isUnder_51 rfl (fun c_51 => ?_) (fun c_51 => ?_)
    · refine h_iconst dX11_isUnder_59 ci_1 ?_
      refine h_goto (tgt := 64) dX11_isUnder_60 rfl ?_
      refine h_zreturn dX11_isUnder_64 rfl (by decide) ?_
      unfold undP at h1 h0
      rw [if_neg s0, if_neg s1, if_pos s2] at h1 h0
      exact h1 (.inl c_51)
    · refine h_iload_n dX11_isUnder_54 rfl ?_
      refine h_iconst dX11_isUnder_55 ci_5 ?_
      refine h_icmpne (tgt := 63) dX11_isUnder_56 rfl (fun c_56 => ?_) (fun c_56 => ?_)
      · refine h_iconst dX11_isUnder_63 ci_0 ?_
        refine h_zreturn dX11_isUnder_64 rfl (by decide) ?_
        unfold undP at h1 h0
        rw [if_neg s0, if_neg s1, if_pos s2] at h1 h0
        exact h0 (fun z => z.elim c_51 c_56)
      · refine h_iconst dX11_isUnder_59 ci_1 ?_
        refine h_goto (tgt := 64) dX11_isUnder_60 rfl ?_
        refine h_zreturn dX11_isUnder_64 rfl (by decide) ?_
        unfold undP at h1 h0
        rw [if_neg s0, if_neg s1, if_pos s2] at h1 h0
        exact h1 (.inr c_56)
  refine h_tableOut (tgt := 65) dX11_isUnder_1 (by have q0 := ti_ne s0 (by decide); have q1 := ti_ne s1 (by decide); have q2 := ti_ne s2 (by decide); omega) rfl ?_
  refine h_iload_n dX11_isUnder_65 rfl ?_
  refine h_iload_n dX11_isUnder_66 rfl ?_
  refine h_icmpne (tgt := 74) dX11_isUnder_67 rfl (fun c_67 => ?_) (fun c_67 => ?_)
  · refine h_iconst dX11_isUnder_74 ci_0 ?_
    refine h_zreturn dX11_isUnder_75 rfl (by decide) ?_
    unfold undP at h1 h0
    rw [if_neg s0, if_neg s1, if_neg s2] at h1 h0
    exact h0 c_67
  · refine h_iconst dX11_isUnder_70 ci_1 ?_
    refine h_goto (tgt := 75) dX11_isUnder_71 rfl ?_
    refine h_zreturn dX11_isUnder_75 rfl (by decide) ?_
    unfold undP at h1 h0
    rw [if_neg s0, if_neg s1, if_neg s2] at h1 h0
    exact h1 c_67
theorem r_isUnder {l : Launch} {dp : Nat} {a w : Int32} {sh : hS} {I : hI} {J : hJ} {R : hR} {Q : hQ} (ha : nI 1 ≤ a) (h1 : undP a w → Q (some (.int (nI 1))) sh I J R) (h0 : ¬ undP a w → Q (some (.int (nI 0))) sh I J R) : HC l mX12_isUnder dp 0 0 [.int a, .int w] sh I J R Q := by
  refine HC.of (by decide +kernel) rfl (Nat.le_of_ble_eq_true rfl) ?_
  show HV l mX12_isUnder dp 0 0 0 [some (.int a), some (.int w)] [] sh I J R Q
  refine h_iload_n dX12_isUnder_0 rfl ?_
  by_cases s0 : w = nI 0
  · refine h_tableIn (off := 27) (tgt := 28) dX12_isUnder_1 (by rw [s0]; decide) (by rw [s0]; decide) (by rw [s0]; decide) rfl ?_
    refine h_iload_n dX12_isUnder_28 rfl ?_
    refine h_bipush dX12_isUnder_29 cb_6 ?_
    refine h_icmpge (tgt := 38) dX12_isUnder_31 rfl (fun c_31 => ?_) (fun c_31 => ?_)
    · refine h_iconst dX12_isUnder_38 ci_0 ?_
      refine h_zreturn dX12_isUnder_39 rfl (by decide) ?_
      unfold undP at h1 h0
      rw [if_pos s0] at h1 h0
      exact h0 (fun z => absurd c_31 (Int32.not_le.mpr (Int32.lt_of_le_of_lt z.2 (by decide))))
    · refine h_iconst dX12_isUnder_34 ci_1 ?_
      refine h_goto (tgt := 39) dX12_isUnder_35 rfl ?_
      refine h_zreturn dX12_isUnder_39 rfl (by decide) ?_
      unfold undP at h1 h0
      rw [if_pos s0] at h1 h0
      exact h1 ⟨ha, by
        have q := Int32.lt_iff_toInt_lt.mp (Int32.not_le.mp c_31)
        rw [nI_toInt (by omega)] at q
        rw [Int32.le_iff_toInt_le, nI_toInt (by omega)]
        omega⟩
  by_cases s1 : w = nI 1
  · refine h_tableIn (off := 39) (tgt := 40) dX12_isUnder_1 (by rw [s1]; decide) (by rw [s1]; decide) (by rw [s1]; decide) rfl ?_
    refine h_iload_n dX12_isUnder_40 rfl ?_
    refine h_iconst dX12_isUnder_41 ci_1 ?_
    refine h_icmpeq (tgt := 50) dX12_isUnder_42 rfl (fun c_42 => ?_) (fun c_42 => ?_)
    · refine h_iconst dX12_isUnder_50 ci_1 ?_
      refine h_goto (tgt := 55) dX12_isUnder_51 rfl ?_
      refine h_zreturn dX12_isUnder_55 rfl (by decide) ?_
      unfold undP at h1 h0
      rw [if_neg s0, if_pos s1] at h1 h0
      exact h1 (.inl c_42)
    · refine h_iload_n dX12_isUnder_45 rfl ?_
      refine h_iconst dX12_isUnder_46 ci_4 ?_
      refine h_icmpne (tgt := 54) dX12_isUnder_47 rfl (fun c_47 => ?_) (fun c_47 => ?_)
      · refine h_iconst dX12_isUnder_54 ci_0 ?_
        refine h_zreturn dX12_isUnder_55 rfl (by decide) ?_
        unfold undP at h1 h0
        rw [if_neg s0, if_pos s1] at h1 h0
        exact h0 (fun z => z.elim c_42 c_47)
      · refine h_iconst dX12_isUnder_50 ci_1 ?_
        refine h_goto (tgt := 55) dX12_isUnder_51 rfl ?_
        refine h_zreturn dX12_isUnder_55 rfl (by decide) ?_
        unfold undP at h1 h0
        rw [if_neg s0, if_pos s1] at h1 h0
        exact h1 (.inr c_47)
  by_cases s2 : w = nI 2
  · refine h_tableIn (off := 55) (tgt := 56) dX12_isUnder_1 (by rw [s2]; decide) (by rw [s2]; decide) (by rw [s2]; decide) rfl ?_
    refine h_iload_n dX12_isUnder_56 rfl ?_
    refine h_iconst dX12_isUnder_57 ci_2 ?_
    refine h_icmpeq (tgt := 66) dX12_isUnder_58 rfl (fun c_58 => ?_) (fun c_58 => ?_)
    · refine h_iconst dX12_isUnder_66 ci_1 ?_
      refine h_goto (tgt := 71) dX12_isUnder_67 rfl ?_
      refine h_zreturn dX12_isUnder_71 rfl (by decide) ?_
      unfold undP at h1 h0
      rw [if_neg s0, if_neg s1, if_pos s2] at h1 h0
      exact h1 (.inl c_58)
    · refine h_iload_n dX12_isUnder_61 rfl ?_
      refine h_iconst dX12_isUnder_62 ci_5 ?_
      refine h_icmpne (tgt := 70) dX12_isUnder_63 rfl (fun c_63 => ?_) (fun c_63 => ?_)
      · refine h_iconst dX12_isUnder_70 ci_0 ?_
        refine h_zreturn dX12_isUnder_71 rfl (by decide) ?_
        unfold undP at h1 h0
        rw [if_neg s0, if_neg s1, if_pos s2] at h1 h0
        exact h0 (fun z => z.elim c_58 c_63)
      · refine h_iconst dX12_isUnder_66 ci_1 ?_
        refine h_goto (tgt := 71) dX12_isUnder_67 rfl ?_
        refine h_zreturn dX12_isUnder_71 rfl (by decide) ?_
        unfold undP at h1 h0
        rw [if_neg s0, if_neg s1, if_pos s2] at h1 h0
        exact h1 (.inr c_63)
  refine h_tableOut (tgt := 72) dX12_isUnder_1 (by have q0 := ti_ne s0 (by decide); have q1 := ti_ne s1 (by decide); have q2 := ti_ne s2 (by decide); omega) rfl ?_
  refine h_iload_n dX12_isUnder_72 rfl ?_
  refine h_iload_n dX12_isUnder_73 rfl ?_
  refine h_icmpne (tgt := 81) dX12_isUnder_74 rfl (fun c_74 => ?_) (fun c_74 => ?_)
  · refine h_iconst dX12_isUnder_81 ci_0 ?_
    refine h_zreturn dX12_isUnder_82 rfl (by decide) ?_
    unfold undP at h1 h0
    rw [if_neg s0, if_neg s1, if_neg s2] at h1 h0
    exact h0 c_74
  · refine h_iconst dX12_isUnder_77 ci_1 ?_
    refine h_goto (tgt := 82) dX12_isUnder_78 rfl ?_
    refine h_zreturn dX12_isUnder_82 rfl (by decide) ?_
    unfold undP at h1 h0
    rw [if_neg s0, if_neg s1, if_neg s2] at h1 h0
    exact h1 c_74
theorem c_kindOn {l : Launch} {dp : Nat} {ns nl np ml nk nw : Nat} {pl fa fb sl pp pm ki fr tg wh bw : Nat → Nat} {rs sn : Nat → Int32} {fl : Nat → Bool} {qw : Nat → Nat → Nat → Nat → Bool} {I : hI} {J : hJ} {lt tx : Option Nat} {sk : Nat → Nat} {sm sz : Nat → Int32} {s : Nat} {Q : hQ} (hG : cG I ns nl np ml nk nw pl fa fb sl pp pm ki fr tg wh bw rs sn fl qw) (hH : cH I sk sm sz) (hs : s < 4) (hN0 : (sk s = 3 ∨ (sk s = 0 ∧ ¬ isIx (sm s) nk) ∨ (sk s = 1 ∧ ¬ isIx (sm s) np)) → Q (some (.int (-11))) hSH I J (hRR lt tx)) (hK : ∀ k, k < nk → sk s = 0 → sm s = nI k → Q (some (.int (nI (ki k)))) hSH I J (hRR lt tx)) (hPt : ∀ p, p < np → sk s = 1 → sm s = nI p → Q (some (.int (nI 6))) hSH I J (hRR lt tx)) (hRo : sk s = 2 → Q (some (.int (nI 10 + sm s))) hSH I J (hRR lt tx))  : HC l mX11_kindOn (dp + 2) 0 0 [.ref 0, .int (nI s)] hSH I J (hRR lt tx) Q := by
  refine HC.of (by decide +kernel) rfl (Nat.le_of_ble_eq_true rfl) ?_
  show HV l mX11_kindOn (dp + 2) 0 0 0 [some (.ref 0), some (.int (nI s)), none] [] hSH I J (hRR lt tx) Q
  obtain ⟨⟨hN, hdo, hla, hlv⟩, hw, ⟨hnp, hml, hnk, hpt, hsi, hbt⟩, ⟨hn8, hm2, hn24, hpW, hsW⟩, hL⟩ := id hG
  obtain ⟨hns, hnl, hpl, hlg⟩ := id hN
  obtain ⟨hn6, hl12, hW, hp99, hr99⟩ := id hw
  obtain ⟨w1, w2, w3, w4⟩ := hH s hs
  refine h_aload_n dX11_kindOn_0 rfl ?_
  refine h_getR dX11_kindOn_1 f_X11_67_9 rfl rfl ?_
  refine h_iload_n dX11_kindOn_4 rfl ?_
  refine h_ialdN (j := s) dX11_kindOn_5 rfl rfl (by omega) rfl rfl ?_
  refine h_istore_n dX11_kindOn_6 (Nat.le_of_ble_eq_true rfl) ?_
  refine h_aload_n dX11_kindOn_7 rfl ?_
  refine h_getR dX11_kindOn_8 f_X11_64_9 rfl rfl ?_
  refine h_iload_n dX11_kindOn_11 rfl ?_
  refine h_ialdN (j := s) dX11_kindOn_12 rfl rfl (by omega) rfl w2 ?_
  by_cases s0 : nI (sk s) = nI 0
  · refine h_tableIn (off := 27) (tgt := 40) dX11_kindOn_13 (by rw [s0]; decide) (by rw [s0]; decide) (by rw [s0]; decide) rfl ?_
    refine h_aload_n dX11_kindOn_40 rfl ?_
    refine h_iload_n dX11_kindOn_41 rfl ?_
    refine h_cV1 dX11_kindOn_42 k3_40 oVX11_isSight rfl rfl ?_
    refine c_isSight (n := nk) hnk (by omega) (fun b1 => ?_) (fun b1 => ?_)
    · obtain ⟨k, hk, e9⟩ := b1
      rw [e9]
      refine h_ifeq (tgt := 60) dX11_kindOn_45 rfl (fun c => absurd c (by decide)) (fun _ => ?_)
      refine h_aload_n dX11_kindOn_48 rfl ?_
      refine h_getR dX11_kindOn_49 f_X11_10_9 rfl rfl ?_
      refine h_getR dX11_kindOn_52 f_X11_201_8 rfl rfl ?_
      refine h_iload_n dX11_kindOn_55 rfl ?_
      refine h_ialdN (j := k) dX11_kindOn_56 rfl rfl (by omega) rfl (hsi _ (by omega)).1 ?_
      refine h_goto (tgt := 62) dX11_kindOn_57 rfl ?_
      refine h_ireturn dX11_kindOn_62 rfl ?_
      have e := (show sk s = 0 by rw [nI_eq (by omega) (by omega)] at s0; exact s0)
      exact hK k hk e ((w3 (by omega)).symm.trans e9)
    · refine h_ifeq (tgt := 60) dX11_kindOn_45 rfl (fun _ => ?_) (fun c => absurd (by decide) c)
      refine h_bipush dX11_kindOn_60 cb_m11 ?_
      refine h_ireturn dX11_kindOn_62 rfl ?_
      have e := (show sk s = 0 by rw [nI_eq (by omega) (by omega)] at s0; exact s0)
      rw [w3 (by omega)] at b1
      exact hN0 (.inr (.inl ⟨e, b1⟩))
  by_cases s1 : nI (sk s) = nI 1
  · refine h_tableIn (off := 50) (tgt := 63) dX11_kindOn_13 (by rw [s1]; decide) (by rw [s1]; decide) (by rw [s1]; decide) rfl ?_
    refine h_aload_n dX11_kindOn_63 rfl ?_
    refine h_iload_n dX11_kindOn_64 rfl ?_
    refine h_cV1 dX11_kindOn_65 k3_11 oVX11_isPoint rfl rfl ?_
    refine c_isPoint (n := np) hnp (by omega) (fun b1 => ?_) (fun b1 => ?_)
    · refine h_ifeq (tgt := 76) dX11_kindOn_68 rfl (fun c => absurd c (by decide)) (fun _ => ?_)
      refine h_bipush dX11_kindOn_71 cb_6 ?_
      refine h_goto (tgt := 78) dX11_kindOn_73 rfl ?_
      refine h_ireturn dX11_kindOn_78 rfl ?_
      have e := (show sk s = 1 by rw [nI_eq (by omega) (by omega)] at s1; exact s1)
      rw [w3 (by omega)] at b1
      obtain ⟨p, hp, e9⟩ := b1
      exact hPt p hp e e9
    · refine h_ifeq (tgt := 76) dX11_kindOn_68 rfl (fun _ => ?_) (fun c => absurd (by decide) c)
      refine h_bipush dX11_kindOn_76 cb_m11 ?_
      refine h_ireturn dX11_kindOn_78 rfl ?_
      have e := (show sk s = 1 by rw [nI_eq (by omega) (by omega)] at s1; exact s1)
      rw [w3 (by omega)] at b1
      exact hN0 (.inr (.inr ⟨e, b1⟩))
  by_cases s2 : nI (sk s) = nI 2
  · refine h_tableIn (off := 66) (tgt := 79) dX11_kindOn_13 (by rw [s2]; decide) (by rw [s2]; decide) (by rw [s2]; decide) rfl ?_
    refine h_bipush dX11_kindOn_79 cb_10 ?_
    refine h_iload_n dX11_kindOn_81 rfl ?_
    refine h_iadd dX11_kindOn_82 ?_
    refine h_ireturn dX11_kindOn_83 rfl ?_
    have e := (show sk s = 2 by rw [nI_eq (by omega) (by omega)] at s2; exact s2)
    rw [w3 (by omega)]
    exact hRo e
  refine h_tableOut (tgt := 84) dX11_kindOn_13 (by have q0 := ti_ne s0 (by decide); have q1 := ti_ne s1 (by decide); have q2 := ti_ne s2 (by decide); omega) rfl ?_
  refine h_bipush dX11_kindOn_84 cb_m11 ?_
  refine h_ireturn dX11_kindOn_86 rfl ?_
  exact hN0 (.inl (by
    rw [nI_eq (by omega) (by omega)] at s0 s1 s2
    omega))
def thP (nk np : Nat) (w x : Int32) : Prop := (w = 0 ∧ isIx x nk) ∨ (w = nI 1 ∧ isIx x np) ∨ (w = nI 2 ∧ sh4 x) ∨ w = nI 3
theorem r_isThing {l : Launch} {dp : Nat} {ns nl np ml nk nw : Nat} {pl fa fb sl pp pm ki fr tg wh bw : Nat → Nat} {rs sn : Nat → Int32} {fl : Nat → Bool} {qw : Nat → Nat → Nat → Nat → Bool} {I : hI} {J : hJ} {lt tx : Option Nat} {w x : Int32} {Q : hQ} (hG : rG I ns nl np ml nk nw pl fa fb sl pp pm ki fr tg wh bw rs sn fl qw) (h1 : thP nk np w x → Q (some (.int (nI 1))) hSH I J (hRR lt tx)) (h0 : ¬ thP nk np w x → Q (some (.int (nI 0))) hSH I J (hRR lt tx)) : HC l mX12_isThing (dp + 2) 0 0 [.ref 82, .int w, .int x] hSH I J (hRR lt tx) Q := by
  refine HC.of (by decide +kernel) rfl (Nat.le_of_ble_eq_true rfl) ?_
  show HV l mX12_isThing (dp + 2) 0 0 0 [some (.ref 82), some (.int w), some (.int x)] [] hSH I J (hRR lt tx) Q
  obtain ⟨hN, hw, ⟨hnp, hml, hnk, hpt, hsi⟩, ⟨hn8, hm2, hn24, hpW, hsW⟩, hL⟩ := id hG
  obtain ⟨hns, hnl, hpl, hlg⟩ := id hN
  obtain ⟨hn6, hl12, hW, hp99, hr99⟩ := id hw
  refine h_iload_n dX12_isThing_0 rfl ?_
  refine h_ifne (tgt := 12) dX12_isThing_1 rfl (fun c_1 => ?_) (fun c_1 => ?_)
  · refine h_iload_n dX12_isThing_12 rfl ?_
    refine h_iconst dX12_isThing_13 ci_1 ?_
    refine h_icmpne (tgt := 25) dX12_isThing_14 rfl (fun c_14 => ?_) (fun c_14 => ?_)
    · refine h_iload_n dX12_isThing_25 rfl ?_
      refine h_iconst dX12_isThing_26 ci_2 ?_
      refine h_icmpne (tgt := 37) dX12_isThing_27 rfl (fun c_27 => ?_) (fun c_27 => ?_)
      · refine h_iload_n dX12_isThing_37 rfl ?_
        refine h_iconst dX12_isThing_38 ci_3 ?_
        refine h_icmpne (tgt := 46) dX12_isThing_39 rfl (fun c_39 => ?_) (fun c_39 => ?_)
        · refine h_iconst dX12_isThing_46 ci_0 ?_
          refine h_zreturn dX12_isThing_47 rfl (by decide) ?_
          exact h0 (by
            rintro (⟨q1, q2⟩ | ⟨q1, q2⟩ | ⟨q1, q2⟩ | q1)
            · exact c_1 q1
            · exact c_14 q1
            · exact c_27 q1
            · exact c_39 q1)
        · refine h_iconst dX12_isThing_42 ci_1 ?_
          refine h_goto (tgt := 47) dX12_isThing_43 rfl ?_
          refine h_zreturn dX12_isThing_47 rfl (by decide) ?_
          exact h1 (.inr (.inr (.inr c_39)))
      · refine h_iload_n dX12_isThing_30 rfl ?_
        refine h_cS1 dX12_isThing_31 k6_233 oSX12_isShelf rfl ?_
        refine c_X12_isShelf (fun b1 => ?_) (fun b1 => ?_)
        · refine h_goto (tgt := 47) dX12_isThing_34 rfl ?_
          refine h_zreturn dX12_isThing_47 rfl (by decide) ?_
          exact h1 (.inr (.inr (.inl ⟨c_27, b1⟩)))
        · refine h_goto (tgt := 47) dX12_isThing_34 rfl ?_
          refine h_zreturn dX12_isThing_47 rfl (by decide) ?_
          exact h0 (by
            rintro (⟨q1, q2⟩ | ⟨q1, q2⟩ | ⟨q1, q2⟩ | q1)
            · rw [c_27] at q1; exact absurd q1 (by decide)
            · rw [c_27] at q1; exact absurd q1 (by decide)
            · exact b1 q2
            · rw [c_27] at q1; exact absurd q1 (by decide))
    · refine h_aload_n dX12_isThing_17 rfl ?_
      refine h_iload_n dX12_isThing_18 rfl ?_
      refine h_cV1 dX12_isThing_19 k5_238 oVX12_isPoint rfl rfl ?_
      refine r_isPoint (n := np) hnp (by omega) (fun b1 => ?_) (fun b1 => ?_)
      · refine h_goto (tgt := 47) dX12_isThing_22 rfl ?_
        refine h_zreturn dX12_isThing_47 rfl (by decide) ?_
        exact h1 (.inr (.inl ⟨c_14, b1⟩))
      · refine h_goto (tgt := 47) dX12_isThing_22 rfl ?_
        refine h_zreturn dX12_isThing_47 rfl (by decide) ?_
        exact h0 (by
          rintro (⟨q1, q2⟩ | ⟨q1, q2⟩ | ⟨q1, q2⟩ | q1)
          · rw [c_14] at q1; exact absurd q1 (by decide)
          · exact b1 q2
          · rw [c_14] at q1; exact absurd q1 (by decide)
          · rw [c_14] at q1; exact absurd q1 (by decide))
  · refine h_aload_n dX12_isThing_4 rfl ?_
    refine h_iload_n dX12_isThing_5 rfl ?_
    refine h_cV1 dX12_isThing_6 k6_24 oVX12_isSight rfl rfl ?_
    refine r_isSight (n := nk) hnk (by omega) (fun b1 => ?_) (fun b1 => ?_)
    · refine h_goto (tgt := 47) dX12_isThing_9 rfl ?_
      refine h_zreturn dX12_isThing_47 rfl (by decide) ?_
      exact h1 (.inl ⟨c_1, b1⟩)
    · refine h_goto (tgt := 47) dX12_isThing_9 rfl ?_
      refine h_zreturn dX12_isThing_47 rfl (by decide) ?_
      exact h0 (by
        rintro (⟨q1, q2⟩ | ⟨q1, q2⟩ | ⟨q1, q2⟩ | q1)
        · exact b1 q2
        · rw [c_1] at q1; exact absurd q1 (by decide)
        · rw [c_1] at q1; exact absurd q1 (by decide)
        · rw [c_1] at q1; exact absurd q1 (by decide))
theorem r_kindOn {l : Launch} {dp : Nat} {ns nl np ml nk nw : Nat} {pl fa fb sl pp pm ki fr tg wh bw : Nat → Nat} {rs sn : Nat → Int32} {fl : Nat → Bool} {qw : Nat → Nat → Nat → Nat → Bool} {I : hI} {J : hJ} {lt tx : Option Nat} {sk : Nat → Nat} {sm sz : Nat → Int32} {s : Nat} {Q : hQ} (hG : rG I ns nl np ml nk nw pl fa fb sl pp pm ki fr tg wh bw rs sn fl qw) (hH : rH I sk sm sz) (hs : s < 4) (hN0 : (sk s = 3 ∨ (sk s = 0 ∧ ¬ isIx (sm s) nk) ∨ (sk s = 1 ∧ ¬ isIx (sm s) np)) → Q (some (.int (-1))) hSH I J (hRR lt tx)) (hK : ∀ k, k < nk → sk s = 0 → sm s = nI k → Q (some (.int (nI (ki k)))) hSH I J (hRR lt tx)) (hPt : ∀ p, p < np → sk s = 1 → sm s = nI p → Q (some (.int (nI 6))) hSH I J (hRR lt tx)) (hRo : sk s = 2 → Q (some (.int (nI 9))) hSH I J (hRR lt tx))  : HC l mX12_kindOn (dp + 3) 0 0 [.ref 82, .int (nI s)] hSH I J (hRR lt tx) Q := by
  refine HC.of (by decide +kernel) rfl (Nat.le_of_ble_eq_true rfl) ?_
  obtain ⟨hN, hw, ⟨hnp, hml, hnk, hpt, hsi⟩, ⟨hn8, hm2, hn24, hpW, hsW⟩, hL⟩ := id hG
  obtain ⟨hns, hnl, hpl, hlg⟩ := id hN
  obtain ⟨hn6, hl12, hW, hp99, hr99⟩ := id hw
  obtain ⟨w1, w2, w3, w4⟩ := hH s hs
  by_cases e_0 : sk s = 0
  · rw [e_0] at w2
    have w2 : I 107 s = nI 0 := w2
    show HV l mX12_kindOn (dp + 3) 0 0 0 [some (.ref 82), some (.int (nI s)), none, none] [] hSH I J (hRR lt tx) Q
    refine h_aload_n dX12_kindOn_0 rfl ?_
    refine h_getR dX12_kindOn_1 f_X12_84_10 rfl rfl ?_
    refine h_iload_n dX12_kindOn_4 rfl ?_
    refine h_ialdN (j := s) dX12_kindOn_5 rfl rfl (by omega) rfl w2 ?_
    refine h_istore_n dX12_kindOn_6 (Nat.le_of_ble_eq_true rfl) ?_
    refine h_aload_n dX12_kindOn_7 rfl ?_
    refine h_getR dX12_kindOn_8 f_X12_87_10 rfl rfl ?_
    refine h_iload_n dX12_kindOn_11 rfl ?_
    refine h_ialdN (j := s) dX12_kindOn_12 rfl rfl (by omega) rfl (w3 (by omega)) ?_
    refine h_istore_n dX12_kindOn_13 (Nat.le_of_ble_eq_true rfl) ?_
    refine h_iload_n dX12_kindOn_14 rfl ?_
    refine h_iflt (tgt := 23) dX12_kindOn_15 rfl (fun c => absurd c (by decide)) (fun _ => ?_)
    refine h_iload_n dX12_kindOn_18 rfl ?_
    refine h_iconst dX12_kindOn_19 ci_2 ?_
    refine h_icmpne (tgt := 34) dX12_kindOn_20 rfl (fun _ => ?_) (fun c => absurd c (by decide))
    refine h_aload_n dX12_kindOn_34 rfl ?_
    refine h_iload_n dX12_kindOn_35 rfl ?_
    refine h_iload_n dX12_kindOn_36 rfl ?_
    refine h_cV2 dX12_kindOn_37 k7_17 oVX12_isThing rfl rfl ?_
    refine r_isThing hG (fun b1 => ?_) (fun b1 => ?_)
    · obtain ⟨k, hk, e9⟩ : isIx (sm s) nk := by
        rcases b1 with q | q | q | q
        · exact q.2
        · exact absurd q.1 (by decide)
        · exact absurd q.1 (by decide)
        · exact absurd q (by decide)
      rw [e9]
      refine h_ifne (tgt := 47) dX12_kindOn_40 rfl (fun _ => ?_) (fun c => absurd c (by decide))
      refine h_iload_n dX12_kindOn_47 rfl ?_
      refine h_iconst dX12_kindOn_48 ci_1 ?_
      refine h_icmpne (tgt := 57) dX12_kindOn_49 rfl (fun _ => ?_) (fun c => absurd c (by decide))
      refine h_aload_n dX12_kindOn_57 rfl ?_
      refine h_getR dX12_kindOn_58 f_X12_19_10 rfl rfl ?_
      refine h_bipush dX12_kindOn_61 cb_7 ?_
      refine h_iload_n dX12_kindOn_63 rfl ?_
      refine h_imulN dX12_kindOn_64 ?_
      refine h_ialdN (j := 7 * k) dX12_kindOn_65 rfl rfl (by omega) rfl (hsi k (by omega)).1 ?_
      refine h_ireturn dX12_kindOn_66 rfl ?_
      exact hK k hk e_0 e9
    · refine h_ifne (tgt := 47) dX12_kindOn_40 rfl (fun c => absurd (by decide) c) (fun _ => ?_)
      refine h_iconst dX12_kindOn_43 ci_m1 ?_
      refine h_goto (tgt := 66) dX12_kindOn_44 rfl ?_
      refine h_ireturn dX12_kindOn_66 rfl ?_
      exact hN0 (.inr (.inl ⟨e_0, fun z => b1 (.inl ⟨rfl, z⟩)⟩))
  by_cases e_1 : sk s = 1
  · rw [e_1] at w2
    have w2 : I 107 s = nI 1 := w2
    show HV l mX12_kindOn (dp + 3) 0 0 0 [some (.ref 82), some (.int (nI s)), none, none] [] hSH I J (hRR lt tx) Q
    refine h_aload_n dX12_kindOn_0 rfl ?_
    refine h_getR dX12_kindOn_1 f_X12_84_10 rfl rfl ?_
    refine h_iload_n dX12_kindOn_4 rfl ?_
    refine h_ialdN (j := s) dX12_kindOn_5 rfl rfl (by omega) rfl w2 ?_
    refine h_istore_n dX12_kindOn_6 (Nat.le_of_ble_eq_true rfl) ?_
    refine h_aload_n dX12_kindOn_7 rfl ?_
    refine h_getR dX12_kindOn_8 f_X12_87_10 rfl rfl ?_
    refine h_iload_n dX12_kindOn_11 rfl ?_
    refine h_ialdN (j := s) dX12_kindOn_12 rfl rfl (by omega) rfl (w3 (by omega)) ?_
    refine h_istore_n dX12_kindOn_13 (Nat.le_of_ble_eq_true rfl) ?_
    refine h_iload_n dX12_kindOn_14 rfl ?_
    refine h_iflt (tgt := 23) dX12_kindOn_15 rfl (fun c => absurd c (by decide)) (fun _ => ?_)
    refine h_iload_n dX12_kindOn_18 rfl ?_
    refine h_iconst dX12_kindOn_19 ci_2 ?_
    refine h_icmpne (tgt := 34) dX12_kindOn_20 rfl (fun _ => ?_) (fun c => absurd c (by decide))
    refine h_aload_n dX12_kindOn_34 rfl ?_
    refine h_iload_n dX12_kindOn_35 rfl ?_
    refine h_iload_n dX12_kindOn_36 rfl ?_
    refine h_cV2 dX12_kindOn_37 k7_17 oVX12_isThing rfl rfl ?_
    refine r_isThing hG (fun b1 => ?_) (fun b1 => ?_)
    · obtain ⟨k, hk, e9⟩ : isIx (sm s) np := by
        rcases b1 with q | q | q | q
        · exact absurd q.1 (by decide)
        · exact q.2
        · exact absurd q.1 (by decide)
        · exact absurd q (by decide)
      rw [e9]
      refine h_ifne (tgt := 47) dX12_kindOn_40 rfl (fun _ => ?_) (fun c => absurd c (by decide))
      refine h_iload_n dX12_kindOn_47 rfl ?_
      refine h_iconst dX12_kindOn_48 ci_1 ?_
      refine h_icmpne (tgt := 57) dX12_kindOn_49 rfl (fun c => absurd (by decide) c) (fun _ => ?_)
      refine h_bipush dX12_kindOn_52 cb_6 ?_
      refine h_goto (tgt := 66) dX12_kindOn_54 rfl ?_
      refine h_ireturn dX12_kindOn_66 rfl ?_
      exact hPt k hk e_1 e9
    · refine h_ifne (tgt := 47) dX12_kindOn_40 rfl (fun c => absurd (by decide) c) (fun _ => ?_)
      refine h_iconst dX12_kindOn_43 ci_m1 ?_
      refine h_goto (tgt := 66) dX12_kindOn_44 rfl ?_
      refine h_ireturn dX12_kindOn_66 rfl ?_
      exact hN0 (.inr (.inr ⟨e_1, fun z => b1 (.inr (.inl ⟨rfl, z⟩))⟩))
  by_cases e_2 : sk s = 2
  · rw [e_2] at w2
    have w2 : I 107 s = nI 2 := w2
    show HV l mX12_kindOn (dp + 3) 0 0 0 [some (.ref 82), some (.int (nI s)), none, none] [] hSH I J (hRR lt tx) Q
    refine h_aload_n dX12_kindOn_0 rfl ?_
    refine h_getR dX12_kindOn_1 f_X12_84_10 rfl rfl ?_
    refine h_iload_n dX12_kindOn_4 rfl ?_
    refine h_ialdN (j := s) dX12_kindOn_5 rfl rfl (by omega) rfl w2 ?_
    refine h_istore_n dX12_kindOn_6 (Nat.le_of_ble_eq_true rfl) ?_
    refine h_aload_n dX12_kindOn_7 rfl ?_
    refine h_getR dX12_kindOn_8 f_X12_87_10 rfl rfl ?_
    refine h_iload_n dX12_kindOn_11 rfl ?_
    refine h_ialdN (j := s) dX12_kindOn_12 rfl rfl (by omega) rfl (w3 (by omega)) ?_
    refine h_istore_n dX12_kindOn_13 (Nat.le_of_ble_eq_true rfl) ?_
    refine h_iload_n dX12_kindOn_14 rfl ?_
    refine h_iflt (tgt := 23) dX12_kindOn_15 rfl (fun c => absurd c (by decide)) (fun _ => ?_)
    refine h_iload_n dX12_kindOn_18 rfl ?_
    refine h_iconst dX12_kindOn_19 ci_2 ?_
    refine h_icmpne (tgt := 34) dX12_kindOn_20 rfl (fun c => absurd (by decide) c) (fun _ => ?_)
    refine h_iload_n dX12_kindOn_23 rfl ?_
    refine h_ifge (tgt := 31) dX12_kindOn_24 rfl (fun _ => ?_) (fun c => absurd (by decide) c)
    refine h_bipush dX12_kindOn_31 cb_9 ?_
    refine h_ireturn dX12_kindOn_33 rfl ?_
    exact hRo e_2
  by_cases e_3 : sk s = 3
  · rw [e_3] at w2
    have w2 : I 107 s = -1 := w2
    show HV l mX12_kindOn (dp + 3) 0 0 0 [some (.ref 82), some (.int (nI s)), none, none] [] hSH I J (hRR lt tx) Q
    refine h_aload_n dX12_kindOn_0 rfl ?_
    refine h_getR dX12_kindOn_1 f_X12_84_10 rfl rfl ?_
    refine h_iload_n dX12_kindOn_4 rfl ?_
    refine h_ialdN (j := s) dX12_kindOn_5 rfl rfl (by omega) rfl w2 ?_
    refine h_istore_n dX12_kindOn_6 (Nat.le_of_ble_eq_true rfl) ?_
    refine h_aload_n dX12_kindOn_7 rfl ?_
    refine h_getR dX12_kindOn_8 f_X12_87_10 rfl rfl ?_
    refine h_iload_n dX12_kindOn_11 rfl ?_
    refine h_ialdN (j := s) dX12_kindOn_12 rfl rfl (by omega) rfl rfl ?_
    refine h_istore_n dX12_kindOn_13 (Nat.le_of_ble_eq_true rfl) ?_
    refine h_iload_n dX12_kindOn_14 rfl ?_
    refine h_iflt (tgt := 23) dX12_kindOn_15 rfl (fun _ => ?_) (fun c => absurd (by decide) c)
    refine h_iload_n dX12_kindOn_23 rfl ?_
    refine h_ifge (tgt := 31) dX12_kindOn_24 rfl (fun c => absurd c (by decide)) (fun _ => ?_)
    refine h_iconst dX12_kindOn_27 ci_m1 ?_
    refine h_goto (tgt := 33) dX12_kindOn_28 rfl ?_
    refine h_ireturn dX12_kindOn_33 rfl ?_
    exact hN0 (.inl e_3)
  omega
