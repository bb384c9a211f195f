/-- the shelves of both: kind (0 sight, 1 point, 2 row, 3 nothing), number, size -/
def cH (I : hI) (sk : Nat → Nat) (sm sz : Nat → Int32) : Prop := ∀ s, s < 4 → sk s ≤ 3 ∧ I 66 s = nI (sk s) ∧ (sk s ≤ 2 → I 67 s = sm s) ∧ (sk s = 2 → I 68 s = sz s ∧ ∃ k, k ≤ 3 ∧ sm s = nI k)
def rH (I : hI) (sk : Nat → Nat) (sm sz : Nat → Int32) : Prop := ∀ s, s < 4 → sk s ≤ 3 ∧ I 107 s = (if sk s = 3 then -1 else nI (sk s)) ∧ (sk s ≤ 2 → I 108 s = sm s) ∧ (sk s = 2 → I 109 s = sz s ∧ ∃ k, k ≤ 3 ∧ sm s = nI k)
def undP (a w : Int32) : Prop := if w = nI 0 then (nI 1 ≤ a ∧ a ≤ nI 5) else if w = nI 1 then (a = nI 1 ∨ a = nI 4) else if w = nI 2 then (a = nI 2 ∨ a = nI 5) else a = w
theorem c_isUnder {l : Launch} {dp : Nat} {a w : Int32} {sh : hS} {I : hI} {J : hJ} {R : hR} {Q : hQ} (h1 : undP a w → Q (some (.int (nI 1))) sh I J R) (h0 : ¬ undP a w → Q (some (.int (nI 0))) sh I J R) : HC l mX11_isUnder (dp + 2) 0 0 [.int a, .int w] sh I J R Q := by
  refine HC.of (by decide +kernel) rfl (Nat.le_of_ble_eq_true rfl) ?_
  show HV l mX11_isUnder (dp + 2) 0 0 0 [some (.int a), some (.int w)] [] sh I J R Q
  refine h_iload_n dX11_isUnder_0 rfl ?_
  by_cases s0 : w = nI 0
  · refine h_tableIn (off := 27) (tgt := 28) dX11_isUnder_1 (by rw [s0]; decide) (by rw [s0]; decide) (by rw [s0]; decide) rfl ?_
    refine h_iload_n dX11_isUnder_28 rfl ?_
    refine h_cS1 dX11_isUnder_29 k2_235 oSX11_isKind rfl ?_
    refine c_X11_isKind (fun b1 => ?_) (fun b1 => ?_)
    · refine h_zreturn dX11_isUnder_32 rfl (by decide) ?_
      unfold undP at h1 h0
      rw [if_pos s0] at h1 h0
      exact h1 b1
    · refine h_zreturn dX11_isUnder_32 rfl (by decide) ?_
      unfold undP at h1 h0
      rw [if_pos s0] at h1 h0
      exact h0 b1
  by_cases s1 : w = nI 1
  · refine h_tableIn (off := 32) (tgt := 33) dX11_isUnder_1 (by rw [s1]; decide) (by rw [s1]; decide) (by rw [s1]; decide) rfl ?_
    refine h_iload_n dX11_isUnder_33 rfl ?_
    refine h_iconst dX11_isUnder_34 ci_1 ?_
    refine h_icmpeq (tgt := 43) dX11_isUnder_35 rfl (fun c_35 => ?_) (fun c_35 => ?_)
    · refine h_iconst dX11_isUnder_43 ci_1 ?_
      refine h_goto (tgt := 48) dX11_isUnder_44 rfl ?_
      refine h_zreturn dX11_isUnder_48 rfl (by decide) ?_
      unfold undP at h1 h0
      rw [if_neg s0, if_pos s1] at h1 h0
      exact h1 (.inl c_35)
    · refine h_iload_n dX11_isUnder_38 rfl ?_
      refine h_iconst dX11_isUnder_39 ci_4 ?_
      refine h_icmpne (tgt := 47) dX11_isUnder_40 rfl (fun c_40 => ?_) (fun c_40 => ?_)
      · refine h_iconst dX11_isUnder_47 ci_0 ?_
        refine h_zreturn dX11_isUnder_48 rfl (by decide) ?_
        unfold undP at h1 h0
        rw [if_neg s0, if_pos s1] at h1 h0
        exact h0 (fun z => z.elim c_35 c_40)
      · refine h_iconst dX11_isUnder_43 ci_1 ?_
        refine h_goto (tgt := 48) dX11_isUnder_44 rfl ?_
        refine h_zreturn dX11_isUnder_48 rfl (by decide) ?_
        unfold undP at h1 h0
        rw [if_neg s0, if_pos s1] at h1 h0
        exact h1 (.inr c_40)
  by_cases s2 : w = nI 2
  · refine h_tableIn (off := 48) (tgt := 49) dX11_isUnder_1 (by rw [s2]; decide) (by rw [s2]; decide) (by rw [s2]; decide) rfl ?_
    refine h_iload_n dX11_isUnder_49 rfl ?_
    refine h_iconst dX11_isUnder_50 ci_2 ?_
    refine h_icmpeq (tgt := 59) dX11_isUnder_51 rfl (fun c_51 => ?_) (fun c_51 => ?_)
    · refine h_iconst dX11_isUnder_59 ci_1 ?_
      refine h_goto (tgt := 64) dX11_isUnder_60 rfl ?_
      refine h_zreturn dX11_isUnder_64 rfl (by decide) ?_
      unfold undP at h1 h0
      rw [if_neg s0, if_neg s1, if_pos s2] at h1 h0
      exact h1 (.inl c_51)
    · refine h_iload_n dX11_isUnder_54 rfl ?_
      refine h_iconst dX11_isUnder_55 ci_5 ?_
      refine h_icmpne (tgt := 63) dX11_isUnder_56 rfl (fun c_56 => ?_) (fun c_56 => ?_)
      · refine h_iconst dX11_isUnder_63 ci_0 ?_
        refine h_zreturn dX11_isUnder_64 rfl (by decide) ?_
        unfold undP at h1 h0
        rw [if_neg s0, if_neg s1, if_pos s2] at h1 h0
        exact h0 (fun z => z.elim c_51 c_56)
      · refine h_iconst dX11_isUnder_59 ci_1 ?_
        refine h_goto (tgt := 64) dX11_isUnder_60 rfl ?_
        refine h_zreturn dX11_isUnder_64 rfl (by decide) ?_
        unfold undP at h1 h0
        rw [if_neg s0, if_neg s1, if_pos s2] at h1 h0
        exact h1 (.inr c_56)
  refine h_tableOut (tgt := 65) dX11_isUnder_1 (by have q0 := ti_ne s0 (by decide); have q1 := ti_ne s1 (by decide); have q2 := ti_ne s2 (by decide); omega) rfl ?_
  refine h_iload_n dX11_isUnder_65 rfl ?_
  refine h_iload_n dX11_isUnder_66 rfl ?_
  refine h_icmpne (tgt := 74) dX11_isUnder_67 rfl (fun c_67 => ?_) (fun c_67 => ?_)
  · refine h_iconst dX11_isUnder_74 ci_0 ?_
    refine h_zreturn dX11_isUnder_75 rfl (by decide) ?_
    unfold undP at h1 h0
    rw [if_neg s0, if_neg s1, if_neg s2] at h1 h0
    exact h0 c_67
  · refine h_iconst dX11_isUnder_70 ci_1 ?_
    refine h_goto (tgt := 75) dX11_isUnder_71 rfl ?_
    refine h_zreturn dX11_isUnder_75 rfl (by decide) ?_
    unfold undP at h1 h0
    rw [if_neg s0, if_neg s1, if_neg s2] at h1 h0
    exact h1 c_67
theorem r_isUnder {l : Launch} {dp : Nat} {a w : Int32} {sh : hS} {I : hI} {J : hJ} {R : hR} {Q : hQ} (ha : nI 1 ≤ a) (h1 : undP a w → Q (some (.int (nI 1))) sh I J R) (h0 : ¬ undP a w → Q (some (.int (nI 0))) sh I J R) : HC l mX12_isUnder dp 0 0 [.int a, .int w] sh I J R Q := by
  refine HC.of (by decide +kernel) rfl (Nat.le_of_ble_eq_true rfl) ?_
  show HV l mX12_isUnder dp 0 0 0 [some (.int a), some (.int w)] [] sh I J R Q
  refine h_iload_n dX12_isUnder_0 rfl ?_
  by_cases s0 : w = nI 0
  · refine h_tableIn (off := 27) (tgt := 28) dX12_isUnder_1 (by rw [s0]; decide) (by rw [s0]; decide) (by rw [s0]; decide) rfl ?_
    refine h_iload_n dX12_isUnder_28 rfl ?_
    refine h_bipush dX12_isUnder_29 cb_6 ?_
    refine h_icmpge (tgt := 38) dX12_isUnder_31 rfl (fun c_31 => ?_) (fun c_31 => ?_)
    · refine h_iconst dX12_isUnder_38 ci_0 ?_
      refine h_zreturn dX12_isUnder_39 rfl (by decide) ?_
      unfold undP at h1 h0
      rw [if_pos s0] at h1 h0
      exact h0 (fun z => absurd c_31 (Int32.not_le.mpr (Int32.lt_of_le_of_lt z.2 (by decide))))
    · refine h_iconst dX12_isUnder_34 ci_1 ?_
      refine h_goto (tgt := 39) dX12_isUnder_35 rfl ?_
      refine h_zreturn dX12_isUnder_39 rfl (by decide) ?_
      unfold undP at h1 h0
      rw [if_pos s0] at h1 h0
      exact h1 ⟨ha, by
        have q := Int32.lt_iff_toInt_lt.mp (Int32.not_le.mp c_31)
        rw [nI_toInt (by omega)] at q
        rw [Int32.le_iff_toInt_le, nI_toInt (by omega)]
        omega⟩
  by_cases s1 : w = nI 1
  · refine h_tableIn (off := 39) (tgt := 40) dX12_isUnder_1 (by rw [s1]; decide) (by rw [s1]; decide) (by rw [s1]; decide) rfl ?_
    refine h_iload_n dX12_isUnder_40 rfl ?_
    refine h_iconst dX12_isUnder_41 ci_1 ?_
    refine h_icmpeq (tgt := 50) dX12_isUnder_42 rfl (fun c_42 => ?_) (fun c_42 => ?_)
    · refine h_iconst dX12_isUnder_50 ci_1 ?_
      refine h_goto (tgt := 55) dX12_isUnder_51 rfl ?_
      refine h_zreturn dX12_isUnder_55 rfl (by decide) ?_
      unfold undP at h1 h0
      rw [if_neg s0, if_pos s1] at h1 h0
      exact h1 (.inl c_42)
    · refine h_iload_n dX12_isUnder_45 rfl ?_
      refine h_iconst dX12_isUnder_46 ci_4 ?_
      refine h_icmpne (tgt := 54) dX12_isUnder_47 rfl (fun c_47 => ?_) (fun c_47 => ?_)
      · refine h_iconst dX12_isUnder_54 ci_0 ?_
        refine h_zreturn dX12_isUnder_55 rfl (by decide) ?_
        unfold undP at h1 h0
        rw [if_neg s0, if_pos s1] at h1 h0
        exact h0 (fun z => z.elim c_42 c_47)
      · refine h_iconst dX12_isUnder_50 ci_1 ?_
        refine h_goto (tgt := 55) dX12_isUnder_51 rfl ?_
        refine h_zreturn dX12_isUnder_55 rfl (by decide) ?_
        unfold undP at h1 h0
        rw [if_neg s0, if_pos s1] at h1 h0
        exact h1 (.inr c_47)
  by_cases s2 : w = nI 2
  · refine h_tableIn (off := 55) (tgt := 56) dX12_isUnder_1 (by rw [s2]; decide) (by rw [s2]; decide) (by rw [s2]; decide) rfl ?_
    refine h_iload_n dX12_isUnder_56 rfl ?_
    refine h_iconst dX12_isUnder_57 ci_2 ?_
    refine h_icmpeq (tgt := 66) dX12_isUnder_58 rfl (fun c_58 => ?_) (fun c_58 => ?_)
    · refine h_iconst dX12_isUnder_66 ci_1 ?_
      refine h_goto (tgt := 71) dX12_isUnder_67 rfl ?_
      refine h_zreturn dX12_isUnder_71 rfl (by decide) ?_
      unfold undP at h1 h0
      rw [if_neg s0, if_neg s1, if_pos s2] at h1 h0
      exact h1 (.inl c_58)
    · refine h_iload_n dX12_isUnder_61 rfl ?_
      refine h_iconst dX12_isUnder_62 ci_5 ?_
      refine h_icmpne (tgt := 70) dX12_isUnder_63 rfl (fun c_63 => ?_) (fun c_63 => ?_)
      · refine h_iconst dX12_isUnder_70 ci_0 ?_
        refine h_zreturn dX12_isUnder_71 rfl (by decide) ?_
        unfold undP at h1 h0
        rw [if_neg s0, if_neg s1, if_pos s2] at h1 h0
        exact h0 (fun z => z.elim c_58 c_63)
      · refine h_iconst dX12_isUnder_66 ci_1 ?_
        refine h_goto (tgt := 71) dX12_isUnder_67 rfl ?_
        refine h_zreturn dX12_isUnder_71 rfl (by decide) ?_
        unfold undP at h1 h0
        rw [if_neg s0, if_neg s1, if_pos s2] at h1 h0
        exact h1 (.inr c_63)
  refine h_tableOut (tgt := 72) dX12_isUnder_1 (by have q0 := ti_ne s0 (by decide); have q1 := ti_ne s1 (by decide); have q2 := ti_ne s2 (by decide); omega) rfl ?_
  refine h_iload_n dX12_isUnder_72 rfl ?_
  refine h_iload_n dX12_isUnder_73 rfl ?_
  refine h_icmpne (tgt := 81) dX12_isUnder_74 rfl (fun c_74 => ?_) (fun c_74 => ?_)
  · refine h_iconst dX12_isUnder_81 ci_0 ?_
    refine h_zreturn dX12_isUnder_82 rfl (by decide) ?_
    unfold undP at h1 h0
    rw [if_neg s0, if_neg s1, if_neg s2] at h1 h0
    exact h0 c_74
  · refine h_iconst dX12_isUnder_77 ci_1 ?_
    refine h_goto (tgt := 82) dX12_isUnder_78 rfl ?_
    refine h_zreturn dX12_isUnder_82 rfl (by decide) ?_
    unfold undP at h1 h0
    rw [if_neg s0, if_neg s1, if_neg s2] at h1 h0
    exact h1 c_74
