theorem c_X11_within {l : Launch} {dp : Nat} {x lo hi : Int32} {sh : hS} {I : hI} {J : hJ} {R : hR} {Q : hQ} (h1 : (lo ≤ x ∧ x ≤ hi) → Q (some (.int (nI 1))) sh I J R) (h0 : ¬ ((lo ≤ x ∧ x ≤ hi)) → Q (some (.int (nI 0))) sh I J R) : HC l mX11_within dp 0 0 [.int x, .int lo, .int hi] sh I J R Q := by
  refine HC.of (by decide +kernel) rfl (Nat.le_of_ble_eq_true rfl) ?_
  show HV l mX11_within dp 0 0 0 [some (.int x), some (.int lo), some (.int hi)] [] sh I J R Q
  refine h_iload_n dX11_within_0 rfl ?_
  refine h_iload_n dX11_within_1 rfl ?_
  refine h_icmplt (tgt := 14) dX11_within_2 rfl (fun c_2 => ?_) (fun c_2 => ?_)
  · refine h_iconst dX11_within_14 ci_0 ?_
    refine h_zreturn dX11_within_15 rfl (by decide) ?_
    exact h0 (by simp only [Int32.lt_iff_toInt_lt, Int32.le_iff_toInt_le] at *; omega)
  · refine h_iload_n dX11_within_5 rfl ?_
    refine h_iload_n dX11_within_6 rfl ?_
    refine h_icmpgt (tgt := 14) dX11_within_7 rfl (fun c_7 => ?_) (fun c_7 => ?_)
    · refine h_iconst dX11_within_14 ci_0 ?_
      refine h_zreturn dX11_within_15 rfl (by decide) ?_
      exact h0 (by simp only [Int32.lt_iff_toInt_lt, Int32.le_iff_toInt_le] at *; omega)
    · refine h_iconst dX11_within_10 ci_1 ?_
      refine h_goto (tgt := 15) dX11_within_11 rfl ?_
      refine h_zreturn dX11_within_15 rfl (by decide) ?_
      exact h1 (by simp only [Int32.lt_iff_toInt_lt, Int32.le_iff_toInt_le] at *; omega)
theorem c_X12_in {l : Launch} {dp : Nat} {x lo hi : Int32} {sh : hS} {I : hI} {J : hJ} {R : hR} {Q : hQ} (h1 : (lo ≤ x ∧ x ≤ hi) → Q (some (.int (nI 1))) sh I J R) (h0 : ¬ ((lo ≤ x ∧ x ≤ hi)) → Q (some (.int (nI 0))) sh I J R) : HC l mX12_in dp 0 0 [.int x, .int lo, .int hi] sh I J R Q := by
  refine HC.of (by decide +kernel) rfl (Nat.le_of_ble_eq_true rfl) ?_
  show HV l mX12_in dp 0 0 0 [some (.int x), some (.int lo), some (.int hi)] [] sh I J R Q
  refine h_iload_n dX12_in_0 rfl ?_
  refine h_iload_n dX12_in_1 rfl ?_
  refine h_icmplt (tgt := 14) dX12_in_2 rfl (fun c_2 => ?_) (fun c_2 => ?_)
  · refine h_iconst dX12_in_14 ci_0 ?_
    refine h_zreturn dX12_in_15 rfl (by decide) ?_
    exact h0 (by simp only [Int32.lt_iff_toInt_lt, Int32.le_iff_toInt_le] at *; omega)
  · refine h_iload_n dX12_in_5 rfl ?_
    refine h_iload_n dX12_in_6 rfl ?_
    refine h_icmpgt (tgt := 14) dX12_in_7 rfl (fun c_7 => ?_) (fun c_7 => ?_)
    · refine h_iconst dX12_in_14 ci_0 ?_
      refine h_zreturn dX12_in_15 rfl (by decide) ?_
      exact h0 (by simp only [Int32.lt_iff_toInt_lt, Int32.le_iff_toInt_le] at *; omega)
    · refine h_iconst dX12_in_10 ci_1 ?_
      refine h_goto (tgt := 15) dX12_in_11 rfl ?_
      refine h_zreturn dX12_in_15 rfl (by decide) ?_
      exact h1 (by simp only [Int32.lt_iff_toInt_lt, Int32.le_iff_toInt_le] at *; omega)
theorem c_X11_isRise {l : Launch} {dp : Nat} {x : Int32} {sh : hS} {I : hI} {J : hJ} {R : hR} {Q : hQ} (h1 : (-99 ≤ x ∧ x ≤ nI 99) → Q (some (.int (nI 1))) sh I J R) (h0 : ¬ ((-99 ≤ x ∧ x ≤ nI 99)) → Q (some (.int (nI 0))) sh I J R) : HC l mX11_isRise (dp + 1) 0 0 [.int x] sh I J R Q := by
  refine HC.of (by decide +kernel) rfl (Nat.le_of_ble_eq_true rfl) ?_
  show HV l mX11_isRise (dp + 1) 0 0 0 [some (.int x)] [] sh I J R Q
  refine h_iload_n dX11_isRise_0 rfl ?_
  refine h_bipush dX11_isRise_1 cb_m99 ?_
  refine h_bipush dX11_isRise_3 cb_99 ?_
  refine h_cS3 dX11_isRise_5 k2_154 oSX11_within rfl ?_
  refine c_X11_within (fun b1 => ?_) (fun b1 => ?_)
  · refine h_zreturn dX11_isRise_8 rfl (by decide) ?_
    exact h1 b1
  · refine h_zreturn dX11_isRise_8 rfl (by decide) ?_
    exact h0 b1
theorem c_X11_isSlip {l : Launch} {dp : Nat} {x : Int32} {sh : hS} {I : hI} {J : hJ} {R : hR} {Q : hQ} (h1 : (nI 1 ≤ x ∧ x ≤ nI 9) → Q (some (.int (nI 1))) sh I J R) (h0 : ¬ ((nI 1 ≤ x ∧ x ≤ nI 9)) → Q (some (.int (nI 0))) sh I J R) : HC l mX11_isSlip (dp + 1) 0 0 [.int x] sh I J R Q := by
  refine HC.of (by decide +kernel) rfl (Nat.le_of_ble_eq_true rfl) ?_
  show HV l mX11_isSlip (dp + 1) 0 0 0 [some (.int x)] [] sh I J R Q
  refine h_iload_n dX11_isSlip_0 rfl ?_
  refine h_iconst dX11_isSlip_1 ci_1 ?_
  refine h_bipush dX11_isSlip_2 cb_9 ?_
  refine h_cS3 dX11_isSlip_4 k2_154 oSX11_within rfl ?_
  refine c_X11_within (fun b1 => ?_) (fun b1 => ?_)
  · refine h_zreturn dX11_isSlip_7 rfl (by decide) ?_
    exact h1 b1
  · refine h_zreturn dX11_isSlip_7 rfl (by decide) ?_
    exact h0 b1
theorem c_X11_isMass {l : Launch} {dp : Nat} {x : Int32} {sh : hS} {I : hI} {J : hJ} {R : hR} {Q : hQ} (h1 : (nI 0 ≤ x ∧ x ≤ nI 99) → Q (some (.int (nI 1))) sh I J R) (h0 : ¬ ((nI 0 ≤ x ∧ x ≤ nI 99)) → Q (some (.int (nI 0))) sh I J R) : HC l mX11_isMass (dp + 1) 0 0 [.int x] sh I J R Q := by
  refine HC.of (by decide +kernel) rfl (Nat.le_of_ble_eq_true rfl) ?_
  show HV l mX11_isMass (dp + 1) 0 0 0 [some (.int x)] [] sh I J R Q
  refine h_iload_n dX11_isMass_0 rfl ?_
  refine h_iconst dX11_isMass_1 ci_0 ?_
  refine h_bipush dX11_isMass_2 cb_99 ?_
  refine h_cS3 dX11_isMass_4 k2_154 oSX11_within rfl ?_
  refine c_X11_within (fun b1 => ?_) (fun b1 => ?_)
  · refine h_zreturn dX11_isMass_7 rfl (by decide) ?_
    exact h1 b1
  · refine h_zreturn dX11_isMass_7 rfl (by decide) ?_
    exact h0 b1
theorem c_X11_isKind {l : Launch} {dp : Nat} {x : Int32} {sh : hS} {I : hI} {J : hJ} {R : hR} {Q : hQ} (h1 : (nI 1 ≤ x ∧ x ≤ nI 5) → Q (some (.int (nI 1))) sh I J R) (h0 : ¬ ((nI 1 ≤ x ∧ x ≤ nI 5)) → Q (some (.int (nI 0))) sh I J R) : HC l mX11_isKind (dp + 1) 0 0 [.int x] sh I J R Q := by
  refine HC.of (by decide +kernel) rfl (Nat.le_of_ble_eq_true rfl) ?_
  show HV l mX11_isKind (dp + 1) 0 0 0 [some (.int x)] [] sh I J R Q
  refine h_iload_n dX11_isKind_0 rfl ?_
  refine h_iconst dX11_isKind_1 ci_1 ?_
  refine h_iconst dX11_isKind_2 ci_5 ?_
  refine h_cS3 dX11_isKind_3 k2_154 oSX11_within rfl ?_
  refine c_X11_within (fun b1 => ?_) (fun b1 => ?_)
  · refine h_zreturn dX11_isKind_6 rfl (by decide) ?_
    exact h1 b1
  · refine h_zreturn dX11_isKind_6 rfl (by decide) ?_
    exact h0 b1
theorem c_X11_isSlant {l : Launch} {dp : Nat} {x : Int32} {sh : hS} {I : hI} {J : hJ} {R : hR} {Q : hQ} (h1 : (-99 ≤ x ∧ x ≤ nI 999) → Q (some (.int (nI 1))) sh I J R) (h0 : ¬ ((-99 ≤ x ∧ x ≤ nI 999)) → Q (some (.int (nI 0))) sh I J R) : HC l mX11_isSlant (dp + 1) 0 0 [.int x] sh I J R Q := by
  refine HC.of (by decide +kernel) rfl (Nat.le_of_ble_eq_true rfl) ?_
  show HV l mX11_isSlant (dp + 1) 0 0 0 [some (.int x)] [] sh I J R Q
  refine h_iload_n dX11_isSlant_0 rfl ?_
  refine h_bipush dX11_isSlant_1 cb_m99 ?_
  refine h_sipush dX11_isSlant_3 cs_999 ?_
  refine h_cS3 dX11_isSlant_6 k2_154 oSX11_within rfl ?_
  refine c_X11_within (fun b1 => ?_) (fun b1 => ?_)
  · refine h_zreturn dX11_isSlant_9 rfl (by decide) ?_
    exact h1 b1
  · refine h_zreturn dX11_isSlant_9 rfl (by decide) ?_
    exact h0 b1
theorem c_X11_isSheet {l : Launch} {dp : Nat} {x : Int32} {sh : hS} {I : hI} {J : hJ} {R : hR} {Q : hQ} (h1 : (nI 0 ≤ x ∧ x ≤ nI 3) → Q (some (.int (nI 1))) sh I J R) (h0 : ¬ ((nI 0 ≤ x ∧ x ≤ nI 3)) → Q (some (.int (nI 0))) sh I J R) : HC l mX11_isSheet (dp + 1) 0 0 [.int x] sh I J R Q := by
  refine HC.of (by decide +kernel) rfl (Nat.le_of_ble_eq_true rfl) ?_
  show HV l mX11_isSheet (dp + 1) 0 0 0 [some (.int x)] [] sh I J R Q
  refine h_iload_n dX11_isSheet_0 rfl ?_
  refine h_iconst dX11_isSheet_1 ci_0 ?_
  refine h_iconst dX11_isSheet_2 ci_3 ?_
  refine h_cS3 dX11_isSheet_3 k2_154 oSX11_within rfl ?_
  refine c_X11_within (fun b1 => ?_) (fun b1 => ?_)
  · refine h_zreturn dX11_isSheet_6 rfl (by decide) ?_
    exact h1 b1
  · refine h_zreturn dX11_isSheet_6 rfl (by decide) ?_
    exact h0 b1
theorem c_X11_isShelf {l : Launch} {dp : Nat} {x : Int32} {sh : hS} {I : hI} {J : hJ} {R : hR} {Q : hQ} (h1 : (nI 0 ≤ x ∧ x ≤ nI 3) → Q (some (.int (nI 1))) sh I J R) (h0 : ¬ ((nI 0 ≤ x ∧ x ≤ nI 3)) → Q (some (.int (nI 0))) sh I J R) : HC l mX11_isShelf (dp + 1) 0 0 [.int x] sh I J R Q := by
  refine HC.of (by decide +kernel) rfl (Nat.le_of_ble_eq_true rfl) ?_
  show HV l mX11_isShelf (dp + 1) 0 0 0 [some (.int x)] [] sh I J R Q
  refine h_iload_n dX11_isShelf_0 rfl ?_
  refine h_iconst dX11_isShelf_1 ci_0 ?_
  refine h_iconst dX11_isShelf_2 ci_3 ?_
  refine h_cS3 dX11_isShelf_3 k2_154 oSX11_within rfl ?_
  refine c_X11_within (fun b1 => ?_) (fun b1 => ?_)
  · refine h_zreturn dX11_isShelf_6 rfl (by decide) ?_
    exact h1 b1
  · refine h_zreturn dX11_isShelf_6 rfl (by decide) ?_
    exact h0 b1
theorem c_X12_isSlant {l : Launch} {dp : Nat} {x : Int32} {sh : hS} {I : hI} {J : hJ} {R : hR} {Q : hQ} (h1 : (-99 ≤ x ∧ x ≤ nI 999) → Q (some (.int (nI 1))) sh I J R) (h0 : ¬ ((-99 ≤ x ∧ x ≤ nI 999)) → Q (some (.int (nI 0))) sh I J R) : HC l mX12_isSlant (dp + 1) 0 0 [.int x] sh I J R Q := by
  refine HC.of (by decide +kernel) rfl (Nat.le_of_ble_eq_true rfl) ?_
  show HV l mX12_isSlant (dp + 1) 0 0 0 [some (.int x)] [] sh I J R Q
  refine h_iload_n dX12_isSlant_0 rfl ?_
  refine h_bipush dX12_isSlant_1 cb_m99 ?_
  refine h_sipush dX12_isSlant_3 cs_999 ?_
  refine h_cS3 dX12_isSlant_6 k5_172 oSX12_in rfl ?_
  refine c_X12_in (fun b1 => ?_) (fun b1 => ?_)
  · refine h_zreturn dX12_isSlant_9 rfl (by decide) ?_
    exact h1 b1
  · refine h_zreturn dX12_isSlant_9 rfl (by decide) ?_
    exact h0 b1
theorem c_X12_isShelf {l : Launch} {dp : Nat} {x : Int32} {sh : hS} {I : hI} {J : hJ} {R : hR} {Q : hQ} (h1 : (nI 0 ≤ x ∧ x ≤ nI 3) → Q (some (.int (nI 1))) sh I J R) (h0 : ¬ ((nI 0 ≤ x ∧ x ≤ nI 3)) → Q (some (.int (nI 0))) sh I J R) : HC l mX12_isShelf (dp + 1) 0 0 [.int x] sh I J R Q := by
  refine HC.of (by decide +kernel) rfl (Nat.le_of_ble_eq_true rfl) ?_
  show HV l mX12_isShelf (dp + 1) 0 0 0 [some (.int x)] [] sh I J R Q
  refine h_iload_n dX12_isShelf_0 rfl ?_
  refine h_iconst dX12_isShelf_1 ci_0 ?_
  refine h_iconst dX12_isShelf_2 ci_3 ?_
  refine h_cS3 dX12_isShelf_3 k5_172 oSX12_in rfl ?_
  refine c_X12_in (fun b1 => ?_) (fun b1 => ?_)
  · refine h_zreturn dX12_isShelf_6 rfl (by decide) ?_
    exact h1 b1
  · refine h_zreturn dX12_isShelf_6 rfl (by decide) ?_
    exact h0 b1
