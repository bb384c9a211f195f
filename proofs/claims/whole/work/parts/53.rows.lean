def cR (I : hI) (nr : Nat) (rc : Nat → Int32) : Prop := I 0 9 = nI nr ∧ nr ≤ 6 ∧ ∀ j, j < 3 * nr → I 62 j = rc j
def rR (I : hI) (nr : Nat) (rc : Nat → Int32) : Prop := I 82 37 = nI nr ∧ nr ≤ 6 ∧ ∀ j, j < 3 * nr → I 103 j = rc j
def rowOk (nr : Nat) (x y : Int32) : Prop := isIx x nr ∧ nI 0 ≤ y ∧ y ≤ nI 2
theorem c_isRow {l : Launch} {dp : Nat} {nr : Nat} {rc : Nat → Int32} {I : hI} {J : hJ} {lt tx : Option Nat} {x y : Int32} {Q : hQ} (hRw : cR I nr rc) (h1 : rowOk nr x y → Q (some (.int (nI 1))) hSH I J (hRR lt tx)) (h0 : ¬ rowOk nr x y → Q (some (.int (nI 0))) hSH I J (hRR lt tx)) : HC l mX11_isRowPart (dp + 1) 0 0 [.ref 0, .int x, .int y] hSH I J (hRR lt tx) Q := by
  refine HC.of (by decide +kernel) rfl (Nat.le_of_ble_eq_true rfl) ?_
  show HV l mX11_isRowPart (dp + 1) 0 0 0 [some (.ref 0), some (.int x), some (.int y)] [] hSH I J (hRR lt tx) Q
  obtain ⟨hnr, hr6, hrc⟩ := id hRw
  refine h_iload_n dX11_isRowPart_0 rfl ?_
  refine h_iconst dX11_isRowPart_1 ci_0 ?_
  refine h_aload_n dX11_isRowPart_2 rfl ?_
  refine h_getI dX11_isRowPart_3 f_X11_51_9 rfl hnr ?_
  refine h_iconst dX11_isRowPart_6 ci_1 ?_
  refine h_isub dX11_isRowPart_7 ?_
  refine h_cS3 dX11_isRowPart_8 k2_154 oSX11_within rfl ?_
  refine c_X11_within (fun b1 => ?_) (fun b1 => ?_)
  · refine h_ifeq (tgt := 27) dX11_isRowPart_11 rfl (fun c => absurd c (by decide)) (fun _ => ?_)
    refine h_iload_n dX11_isRowPart_14 rfl ?_
    refine h_iconst dX11_isRowPart_15 ci_0 ?_
    refine h_iconst dX11_isRowPart_16 ci_2 ?_
    refine h_cS3 dX11_isRowPart_17 k2_154 oSX11_within rfl ?_
    refine c_X11_within (fun b2 => ?_) (fun b2 => ?_)
    · refine h_ifeq (tgt := 27) dX11_isRowPart_20 rfl (fun c => absurd c (by decide)) (fun _ => ?_)
      refine h_iconst dX11_isRowPart_23 ci_1 ?_
      refine h_goto (tgt := 28) dX11_isRowPart_24 rfl ?_
      refine h_zreturn dX11_isRowPart_28 rfl (by decide) ?_
      exact h1 ⟨(isIx_iff (by omega)).mp b1, b2⟩
    · refine h_ifeq (tgt := 27) dX11_isRowPart_20 rfl (fun _ => ?_) (fun c => absurd (by decide) c)
      refine h_iconst dX11_isRowPart_27 ci_0 ?_
      refine h_zreturn dX11_isRowPart_28 rfl (by decide) ?_
      exact h0 (fun z => b2 z.2)
  · refine h_ifeq (tgt := 27) dX11_isRowPart_11 rfl (fun _ => ?_) (fun c => absurd (by decide) c)
    refine h_iconst dX11_isRowPart_27 ci_0 ?_
    refine h_zreturn dX11_isRowPart_28 rfl (by decide) ?_
    exact h0 (fun z => b1 ((isIx_iff (by omega)).mpr z.1))
theorem c_row {l : Launch} {dp : Nat} {nr : Nat} {rc : Nat → Int32} {I : hI} {J : hJ} {lt tx : Option Nat} {x w : Int32} {Q : hQ} (hRw : cR I nr rc) (hB : ¬ rowOk nr x w → Q (some (.int (-10000001))) hSH I J (hRR lt tx)) (hO : ∀ i y, i < nr → y ≤ 2 → x = nI i → w = nI y → Q (some (.int (rc (3 * i + y)))) hSH I J (hRR lt tx)) : HC l mX11_row (dp + 2) 0 0 [.ref 0, .int x, .int w] hSH I J (hRR lt tx) Q := by
  refine HC.of (by decide +kernel) rfl (Nat.le_of_ble_eq_true rfl) ?_
  show HV l mX11_row (dp + 2) 0 0 0 [some (.ref 0), some (.int x), some (.int w)] [] hSH I J (hRR lt tx) Q
  obtain ⟨hnr, hr6, hrc⟩ := id hRw
  refine h_aload_n dX11_row_0 rfl ?_
  refine h_iload_n dX11_row_1 rfl ?_
  refine h_iload_n dX11_row_2 rfl ?_
  refine h_cV2 dX11_row_3 k4_26 oVX11_isRowPart rfl rfl ?_
  refine c_isRow hRw (fun b1 => ?_) (fun b1 => ?_)
  · obtain ⟨⟨i, hi, rfl⟩, hy⟩ := b1
    obtain ⟨y, rfl, -, hy2⟩ := rng_ex (by omega) (by omega) hy.1 hy.2
    refine h_ifeq (tgt := 22) dX11_row_6 rfl (fun c => absurd c (by decide)) (fun _ => ?_)
    refine h_aload_n dX11_row_9 rfl ?_
    refine h_getR dX11_row_10 f_X11_47_9 rfl rfl ?_
    refine h_iload_n dX11_row_13 rfl ?_
    refine h_iconst dX11_row_14 ci_3 ?_
    refine h_imulN dX11_row_15 ?_
    refine h_iload_n dX11_row_16 rfl ?_
    refine h_iaddN dX11_row_17 ?_
    refine h_ialdN (j := 3 * i + y) dX11_row_18 rfl (by rw [Nat.mul_comm]) (by omega) rfl (hrc _ (by omega)) ?_
    refine h_goto (tgt := 24) dX11_row_19 rfl ?_
    refine h_ireturn dX11_row_24 rfl ?_
    exact hO i y hi hy2 rfl rfl
  · refine h_ifeq (tgt := 22) dX11_row_6 rfl (fun _ => ?_) (fun c => absurd (by decide) c)
    refine h_ldc dX11_row_22 k2_206 ?_
    refine h_ireturn dX11_row_24 rfl ?_
    exact hB b1
theorem c_alterRow {l : Launch} {dp : Nat} {nr : Nat} {rc : Nat → Int32} {I : hI} {J : hJ} {lt tx : Option Nat} {x w u : Int32} {Q : hQ} (hRw : cR I nr rc) (hB : ¬ rowOk nr x w → Q (some (.int (-10000001))) hSH I J (hRR lt tx)) (hO : ∀ i y, i < nr → y ≤ 2 → x = nI i → w = nI y → Q (some (.int (rc (3 * i + y)))) hSH (upI I 62 (3 * i + y) u) J (hRR lt tx)) : HC l mX11_alterRow (dp + 2) 0 0 [.ref 0, .int x, .int w, .int u] hSH I J (hRR lt tx) Q := by
  refine HC.of (by decide +kernel) rfl (Nat.le_of_ble_eq_true rfl) ?_
  show HV l mX11_alterRow (dp + 2) 0 0 0 [some (.ref 0), some (.int x), some (.int w), some (.int u), none] [] hSH I J (hRR lt tx) Q
  obtain ⟨hnr, hr6, hrc⟩ := id hRw
  refine h_aload_n dX11_alterRow_0 rfl ?_
  refine h_iload_n dX11_alterRow_1 rfl ?_
  refine h_iload_n dX11_alterRow_2 rfl ?_
  refine h_cV2 dX11_alterRow_3 k4_26 oVX11_isRowPart rfl rfl ?_
  refine c_isRow hRw (fun b1 => ?_) (fun b1 => ?_)
  · obtain ⟨⟨i, hi, rfl⟩, hy⟩ := b1
    obtain ⟨y, rfl, -, hy2⟩ := rng_ex (by omega) (by omega) hy.1 hy.2
    refine h_ifne (tgt := 12) dX11_alterRow_6 rfl (fun _ => ?_) (fun c => absurd c (by decide))
    refine h_aload_n dX11_alterRow_12 rfl ?_
    refine h_getR dX11_alterRow_13 f_X11_47_9 rfl rfl ?_
    refine h_iload_n dX11_alterRow_16 rfl ?_
    refine h_iconst dX11_alterRow_17 ci_3 ?_
    refine h_imulN dX11_alterRow_18 ?_
    refine h_iload_n dX11_alterRow_19 rfl ?_
    refine h_iaddN dX11_alterRow_20 ?_
    refine h_ialdN (j := 3 * i + y) dX11_alterRow_21 rfl (by rw [Nat.mul_comm]) (by omega) rfl (hrc _ (by omega)) ?_
    refine h_istore dX11_alterRow_22 (Nat.le_of_ble_eq_true rfl) ?_
    refine h_aload_n dX11_alterRow_24 rfl ?_
    refine h_getR dX11_alterRow_25 f_X11_47_9 rfl rfl ?_
    refine h_iload_n dX11_alterRow_28 rfl ?_
    refine h_iconst dX11_alterRow_29 ci_3 ?_
    refine h_imulN dX11_alterRow_30 ?_
    refine h_iload_n dX11_alterRow_31 rfl ?_
    refine h_iaddN dX11_alterRow_32 ?_
    refine h_iload_n dX11_alterRow_33 rfl ?_
    refine h_iastN (j := 3 * i + y) dX11_alterRow_34 rfl (by rw [Nat.mul_comm]) (by omega) rfl ?_
    refine h_iload dX11_alterRow_35 rfl ?_
    refine h_ireturn dX11_alterRow_37 rfl ?_
    exact hO i y hi hy2 rfl rfl
  · refine h_ifne (tgt := 12) dX11_alterRow_6 rfl (fun c => absurd (by decide) c) (fun _ => ?_)
    refine h_ldc dX11_alterRow_9 k2_206 ?_
    refine h_ireturn dX11_alterRow_11 rfl ?_
    exact hB b1
theorem r_isRow {l : Launch} {dp : Nat} {nr : Nat} {rc : Nat → Int32} {I : hI} {J : hJ} {lt tx : Option Nat} {x y : Int32} {Q : hQ} (hRw : rR I nr rc) (h1 : rowOk nr x y → Q (some (.int (nI 1))) hSH I J (hRR lt tx)) (h0 : ¬ rowOk nr x y → Q (some (.int (nI 0))) hSH I J (hRR lt tx)) : HC l mX12_isRow (dp + 1) 0 0 [.ref 82, .int x, .int y] hSH I J (hRR lt tx) Q := by
  refine HC.of (by decide +kernel) rfl (Nat.le_of_ble_eq_true rfl) ?_
  show HV l mX12_isRow (dp + 1) 0 0 0 [some (.ref 82), some (.int x), some (.int y)] [] hSH I J (hRR lt tx) Q
  obtain ⟨hnr, hr6, hrc⟩ := id hRw
  refine h_iload_n dX12_isRow_0 rfl ?_
  refine h_iconst dX12_isRow_1 ci_0 ?_
  refine h_aload_n dX12_isRow_2 rfl ?_
  refine h_getI dX12_isRow_3 f_X12_337_10 rfl hnr ?_
  refine h_iconst dX12_isRow_6 ci_1 ?_
  refine h_isub dX12_isRow_7 ?_
  refine h_cS3 dX12_isRow_8 k5_172 oSX12_in rfl ?_
  refine c_X12_in (fun b1 => ?_) (fun b1 => ?_)
  · refine h_ifeq (tgt := 27) dX12_isRow_11 rfl (fun c => absurd c (by decide)) (fun _ => ?_)
    refine h_iload_n dX12_isRow_14 rfl ?_
    refine h_iconst dX12_isRow_15 ci_0 ?_
    refine h_iconst dX12_isRow_16 ci_2 ?_
    refine h_cS3 dX12_isRow_17 k5_172 oSX12_in rfl ?_
    refine c_X12_in (fun b2 => ?_) (fun b2 => ?_)
    · refine h_ifeq (tgt := 27) dX12_isRow_20 rfl (fun c => absurd c (by decide)) (fun _ => ?_)
      refine h_iconst dX12_isRow_23 ci_1 ?_
      refine h_goto (tgt := 28) dX12_isRow_24 rfl ?_
      refine h_zreturn dX12_isRow_28 rfl (by decide) ?_
      exact h1 ⟨(isIx_iff (by omega)).mp b1, b2⟩
    · refine h_ifeq (tgt := 27) dX12_isRow_20 rfl (fun _ => ?_) (fun c => absurd (by decide) c)
      refine h_iconst dX12_isRow_27 ci_0 ?_
      refine h_zreturn dX12_isRow_28 rfl (by decide) ?_
      exact h0 (fun z => b2 z.2)
  · refine h_ifeq (tgt := 27) dX12_isRow_11 rfl (fun _ => ?_) (fun c => absurd (by decide) c)
    refine h_iconst dX12_isRow_27 ci_0 ?_
    refine h_zreturn dX12_isRow_28 rfl (by decide) ?_
    exact h0 (fun z => b1 ((isIx_iff (by omega)).mpr z.1))
theorem r_row {l : Launch} {dp : Nat} {nr : Nat} {rc : Nat → Int32} {I : hI} {J : hJ} {lt tx : Option Nat} {x w : Int32} {Q : hQ} (hRw : rR I nr rc) (hB : ¬ rowOk nr x w → Q (some (.int (-10000001))) hSH I J (hRR lt tx)) (hO : ∀ i y, i < nr → y ≤ 2 → x = nI i → w = nI y → Q (some (.int (rc (3 * i + y)))) hSH I J (hRR lt tx)) : HC l mX12_row (dp + 2) 0 0 [.ref 82, .int x, .int w] hSH I J (hRR lt tx) Q := by
  refine HC.of (by decide +kernel) rfl (Nat.le_of_ble_eq_true rfl) ?_
  show HV l mX12_row (dp + 2) 0 0 0 [some (.ref 82), some (.int x), some (.int w)] [] hSH I J (hRR lt tx) Q
  obtain ⟨hnr, hr6, hrc⟩ := id hRw
  refine h_aload_n dX12_row_0 rfl ?_
  refine h_iload_n dX12_row_1 rfl ?_
  refine h_iload_n dX12_row_2 rfl ?_
  refine h_cV2 dX12_row_3 k6_217 oVX12_isRow rfl rfl ?_
  refine r_isRow hRw (fun b1 => ?_) (fun b1 => ?_)
  · obtain ⟨⟨i, hi, rfl⟩, hy⟩ := b1
    obtain ⟨y, rfl, -, hy2⟩ := rng_ex (by omega) (by omega) hy.1 hy.2
    refine h_ifeq (tgt := 22) dX12_row_6 rfl (fun c => absurd c (by decide)) (fun _ => ?_)
    refine h_aload_n dX12_row_9 rfl ?_
    refine h_getR dX12_row_10 f_X12_71_10 rfl rfl ?_
    refine h_iconst dX12_row_13 ci_3 ?_
    refine h_iload_n dX12_row_14 rfl ?_
    refine h_imulN dX12_row_15 ?_
    refine h_iload_n dX12_row_16 rfl ?_
    refine h_iaddN dX12_row_17 ?_
    refine h_ialdN (j := 3 * i + y) dX12_row_18 rfl rfl (by omega) rfl (hrc _ (by omega)) ?_
    refine h_goto (tgt := 24) dX12_row_19 rfl ?_
    refine h_ireturn dX12_row_24 rfl ?_
    exact hO i y hi hy2 rfl rfl
  · refine h_ifeq (tgt := 22) dX12_row_6 rfl (fun _ => ?_) (fun c => absurd (by decide) c)
    refine h_ldc dX12_row_22 k5_187 ?_
    refine h_ireturn dX12_row_24 rfl ?_
    exact hB b1
theorem r_alterRow {l : Launch} {dp : Nat} {nr : Nat} {rc : Nat → Int32} {I : hI} {J : hJ} {lt tx : Option Nat} {x w u : Int32} {Q : hQ} (hRw : rR I nr rc) (hB : ¬ rowOk nr x w → Q (some (.int (-10000001))) hSH I J (hRR lt tx)) (hO : ∀ i y, i < nr → y ≤ 2 → x = nI i → w = nI y → Q (some (.int (rc (3 * i + y)))) hSH (upI I 103 (3 * i + y) u) J (hRR lt tx)) : HC l mX12_alterRow (dp + 2) 0 0 [.ref 82, .int x, .int w, .int u] hSH I J (hRR lt tx) Q := by
  refine HC.of (by decide +kernel) rfl (Nat.le_of_ble_eq_true rfl) ?_
  show HV l mX12_alterRow (dp + 2) 0 0 0 [some (.ref 82), some (.int x), some (.int w), some (.int u), none] [] hSH I J (hRR lt tx) Q
  obtain ⟨hnr, hr6, hrc⟩ := id hRw
  refine h_aload_n dX12_alterRow_0 rfl ?_
  refine h_iload_n dX12_alterRow_1 rfl ?_
  refine h_iload_n dX12_alterRow_2 rfl ?_
  refine h_cV2 dX12_alterRow_3 k6_217 oVX12_isRow rfl rfl ?_
  refine r_isRow hRw (fun b1 => ?_) (fun b1 => ?_)
  · obtain ⟨⟨i, hi, rfl⟩, hy⟩ := b1
    obtain ⟨y, rfl, -, hy2⟩ := rng_ex (by omega) (by omega) hy.1 hy.2
    refine h_ifne (tgt := 12) dX12_alterRow_6 rfl (fun _ => ?_) (fun c => absurd c (by decide))
    refine h_aload_n dX12_alterRow_12 rfl ?_
    refine h_getR dX12_alterRow_13 f_X12_71_10 rfl rfl ?_
    refine h_iconst dX12_alterRow_16 ci_3 ?_
    refine h_iload_n dX12_alterRow_17 rfl ?_
    refine h_imulN dX12_alterRow_18 ?_
    refine h_iload_n dX12_alterRow_19 rfl ?_
    refine h_iaddN dX12_alterRow_20 ?_
    refine h_ialdN (j := 3 * i + y) dX12_alterRow_21 rfl rfl (by omega) rfl (hrc _ (by omega)) ?_
    refine h_istore dX12_alterRow_22 (Nat.le_of_ble_eq_true rfl) ?_
    refine h_aload_n dX12_alterRow_24 rfl ?_
    refine h_getR dX12_alterRow_25 f_X12_71_10 rfl rfl ?_
    refine h_iconst dX12_alterRow_28 ci_3 ?_
    refine h_iload_n dX12_alterRow_29 rfl ?_
    refine h_imulN dX12_alterRow_30 ?_
    refine h_iload_n dX12_alterRow_31 rfl ?_
    refine h_iaddN dX12_alterRow_32 ?_
    refine h_iload_n dX12_alterRow_33 rfl ?_
    refine h_iastN (j := 3 * i + y) dX12_alterRow_34 rfl rfl (by omega) rfl ?_
    refine h_iload dX12_alterRow_35 rfl ?_
    refine h_ireturn dX12_alterRow_37 rfl ?_
    exact hO i y hi hy2 rfl rfl
  · refine h_ifne (tgt := 12) dX12_alterRow_6 rfl (fun c => absurd (by decide) c) (fun _ => ?_)
    refine h_ldc dX12_alterRow_9 k5_187 ?_
    refine h_ireturn dX12_alterRow_11 rfl ?_
    exact hB b1
