def JQ (J J2 : hJ) : Prop := ∃ v, J2 = upJ J 82 26 v
theorem JQ_up {J : hJ} {v : Int64} : JQ J (upJ J 82 26 v) := ⟨v, rfl⟩
theorem JQ_id (J : hJ) : JQ J J := ⟨J 82 26, by
  funext x j
  unfold upJ vp_updL
  by_cases h : x = 82
  · rw [if_pos h]
    by_cases h2 : j = 26
    · rw [if_pos h2, h, h2]
    · rw [if_neg h2, h]
  · rw [if_neg h]⟩
theorem JQ_tr {J J2 J3 : hJ} (h : JQ J J2) (h2 : JQ J2 J3) : JQ J J3 := by
  obtain ⟨u, rfl⟩ := h
  obtain ⟨v, rfl⟩ := h2
  exact ⟨v, upJ_J _ _ _ _ _⟩
def RF (I I2 : hI) : Prop := ∃ g97 g98 v82_23 v82_24 v82_25 v82_27 v82_32 v82_33, I2 = (upI (upI (upI (upI (upI (upI (upA (upA I 97 g97) 98 g98) 82 23 v82_23) 82 24 v82_24) 82 25 v82_25) 82 27 v82_27) 82 32 v82_32) 82 33 v82_33)
theorem RF_iff {I I2 : hI} : RF I I2 ↔ (∀ x, x ≠ 97 → x ≠ 98 → x ≠ 82 → I2 x = I x) ∧ ∀ j, j ≠ 23 → j ≠ 24 → j ≠ 25 → j ≠ 27 → j ≠ 32 → j ≠ 33 → I2 82 j = I 82 j := by
  constructor
  · rintro ⟨g97, g98, v82_23, v82_24, v82_25, v82_27, v82_32, v82_33, rfl⟩
    refine ⟨fun x h97 h98 h82 => ?_, fun j q23 q24 q25 q27 q32 q33 => ?_⟩
    · simp [upA, upI, h97, h98, h82]
    · simp [upA, upI, upd, q23, q24, q25, q27, q32, q33]
  · rintro ⟨h, f82⟩
    refine ⟨I2 97, I2 98, I2 82 23, I2 82 24, I2 82 25, I2 82 27, I2 82 32, I2 82 33, ?_⟩
    funext x
    by_cases e97 : x = 97
    · subst e97; simp [upA, upI]
    · skip
      by_cases e98 : x = 98
      · subst e98; simp [upA, upI]
      · skip
        by_cases e82 : x = 82
        · subst e82
          funext j
          by_cases q23 : j = 23
          · subst q23; simp [upA, upI, upd]
          · skip
            by_cases q24 : j = 24
            · subst q24; simp [upA, upI, upd]
            · skip
              by_cases q25 : j = 25
              · subst q25; simp [upA, upI, upd]
              · skip
                by_cases q27 : j = 27
                · subst q27; simp [upA, upI, upd]
                · skip
                  by_cases q32 : j = 32
                  · subst q32; simp [upA, upI, upd]
                  · skip
                    by_cases q33 : j = 33
                    · subst q33; simp [upA, upI, upd]
                    · skip
                      simp [upA, upI, upd, q23, q24, q25, q27, q32, q33, f82 j q23 q24 q25 q27 q32 q33]
        · skip
          simp [upA, upI, e97, e98, e82, h x e97 e98 e82]
theorem RF_id (I : hI) : RF I I := RF_iff.mpr ⟨fun x _ _ _ => rfl, fun j _ _ _ _ _ _ => rfl⟩
theorem RF_tr {I I2 I3 : hI} (k1 : RF I I2) (k2 : RF I2 I3) : RF I I3 := RF_iff.mpr ⟨fun x h97 h98 h82 => ((RF_iff.mp k2).1 x h97 h98 h82).trans ((RF_iff.mp k1).1 x h97 h98 h82), fun j q23 q24 q25 q27 q32 q33 => ((RF_iff.mp k2).2 j q23 q24 q25 q27 q32 q33).trans ((RF_iff.mp k1).2 j q23 q24 q25 q27 q32 q33)⟩
def SE (I I2 : hI) : Prop := ∃ g97 v82_32 v82_33, I2 = (upI (upI (upA I 97 g97) 82 32 v82_32) 82 33 v82_33)
theorem SE_iff {I I2 : hI} : SE I I2 ↔ (∀ x, x ≠ 97 → x ≠ 82 → I2 x = I x) ∧ ∀ j, j ≠ 32 → j ≠ 33 → I2 82 j = I 82 j := by
  constructor
  · rintro ⟨g97, v82_32, v82_33, rfl⟩
    refine ⟨fun x h97 h82 => ?_, fun j q32 q33 => ?_⟩
    · simp [upA, upI, h97, h82]
    · simp [upA, upI, upd, q32, q33]
  · rintro ⟨h, f82⟩
    refine ⟨I2 97, I2 82 32, I2 82 33, ?_⟩
    funext x
    by_cases e97 : x = 97
    · subst e97; simp [upA, upI]
    · skip
      by_cases e82 : x = 82
      · subst e82
        funext j
        by_cases q32 : j = 32
        · subst q32; simp [upA, upI, upd]
        · skip
          by_cases q33 : j = 33
          · subst q33; simp [upA, upI, upd]
          · skip
            simp [upA, upI, upd, q32, q33, f82 j q32 q33]
      · skip
        simp [upA, upI, e97, e82, h x e97 e82]
theorem SE_id (I : hI) : SE I I := SE_iff.mpr ⟨fun x _ _ => rfl, fun j _ _ => rfl⟩
theorem SE_tr {I I2 I3 : hI} (k1 : SE I I2) (k2 : SE I2 I3) : SE I I3 := SE_iff.mpr ⟨fun x h97 h82 => ((SE_iff.mp k2).1 x h97 h82).trans ((SE_iff.mp k1).1 x h97 h82), fun j q32 q33 => ((SE_iff.mp k2).2 j q32 q33).trans ((SE_iff.mp k1).2 j q32 q33)⟩
theorem SR_rf {I I2 : hI} (h : SR I I2) : RF I I2 := RF_iff.mpr ⟨fun x _ _ h82 => (SR_iff.mp h).1 x h82, fun j q23 q24 q25 _ _ _ => (SR_iff.mp h).2 j q23 q24 q25⟩
theorem SE_rf {I I2 : hI} (h : SE I I2) : RF I I2 := RF_iff.mpr ⟨fun x h97 _ h82 => (SE_iff.mp h).1 x h97 h82, fun j _ _ _ _ q32 q33 => (SE_iff.mp h).2 j q32 q33⟩
theorem EM_se {I : hI} {fm : Nat} {v w : Int32} : SE I (upI (upI I 97 fm v) 82 32 w) := SE_iff.mpr ⟨fun x h97 h82 => by rw [upI_n _ _ _ h82, upI_n _ _ _ h97], fun j q32 _ => by rw [upI_f q32, upI_n _ _ _ (by decide)]⟩
theorem HO_rf {I : hI} {fm : Nat} {v w : Int32} : RF I (upI (upI I 98 fm v) 82 33 w) := RF_iff.mpr ⟨fun x _ h98 h82 => by rw [upI_n _ _ _ h82, upI_n _ _ _ h98], fun j _ _ _ _ _ q33 => by rw [upI_f q33, upI_n _ _ _ (by decide)]⟩
theorem W_se {I : hI} {w : Int32} : SE I (upI I 82 33 w) := SE_iff.mpr ⟨fun x h97 h82 => by rw [upI_n _ _ _ h82], fun j _ q33 => by rw [upI_f q33]⟩
theorem FA_rf {I : hI} {w : Int32} : RF I (upI I 82 27 w) := RF_iff.mpr ⟨fun x _ h98 h82 => by rw [upI_n _ _ _ h82], fun j _ _ _ q27 _ _ => by rw [upI_f q27]⟩
theorem rT_rf {I I2 : hI} {tp : Nat → Nat} {nt : Nat} (h : RF I I2) (hT : rT I nt tp) : rT I2 nt tp := by
  unfold rT
  rw [(RF_iff.mp h).2 22 (by decide) (by decide) (by decide) (by decide) (by decide) (by decide), (RF_iff.mp h).1 96 (by decide) (by decide) (by decide)]
  exact hT
theorem RK_se {I I2 : hI} {J : hJ} {tp : Nat → Nat} {nt e : Nat} (h : SE I I2) (hK : RK I J tp nt e) : RK I2 J tp nt e := by
  unfold RK
  rw [(SE_iff.mp h).2 23 (by decide) (by decide), (SE_iff.mp h).2 24 (by decide) (by decide), (SE_iff.mp h).2 25 (by decide) (by decide)]
  exact hK
theorem SE_f {I I2 : hI} (h : SE I I2) {j : Nat} (q32 : j ≠ 32) (q33 : j ≠ 33) : I2 82 j = I 82 j := (SE_iff.mp h).2 j q32 q33
theorem SR_f {I I2 : hI} (h : SR I I2) {j : Nat} (q23 : j ≠ 23) (q24 : j ≠ 24) (q25 : j ≠ 25) : I2 82 j = I 82 j := (SR_iff.mp h).2 j q23 q24 q25
theorem SR_a {I I2 : hI} (h : SR I I2) {a : Nat} (q : a ≠ 82) : I2 a = I a := (SR_iff.mp h).1 a q
theorem SE_a {I I2 : hI} (h : SE I I2) {a : Nat} (q : a ≠ 97) (q2 : a ≠ 82) : I2 a = I a := (SE_iff.mp h).1 a q q2
theorem r_isWord {l : Launch} {dp : Nat} {w : Int64} {I : hI} {J : hJ} {lt tx : Option Nat} {Q : hQ} (h1 : I 82 23 = nI 1 ∧ J 82 26 = w → Q (some (.int (nI 1))) hSH I J (hRR lt tx)) (h0 : ¬ (I 82 23 = nI 1 ∧ J 82 26 = w) → Q (some (.int (nI 0))) hSH I J (hRR lt tx))  : HC l mX12_isWord dp 0 0 [.ref 82, .long w] hSH I J (hRR lt tx) Q := by
  refine HC.of (by decide +kernel) rfl (Nat.le_of_ble_eq_true rfl) ?_
  show HV l mX12_isWord dp 0 0 0 [some (.ref 82), some (.long w), none] [] hSH I J (hRR lt tx) Q
  refine h_aload_n dX12_isWord_0 rfl ?_
  refine h_getI dX12_isWord_1 f_X12_238_10 rfl rfl ?_
  refine h_iconst dX12_isWord_4 ci_1 ?_
  refine h_icmpne (tgt := 21) dX12_isWord_5 rfl (fun c_5 => ?_) (fun c_5 => ?_)
  · refine h_iconst dX12_isWord_21 ci_0 ?_
    refine h_zreturn dX12_isWord_22 rfl (by decide) ?_
    exact h0 (fun z => c_5 z.1)
  · refine h_aload_n dX12_isWord_8 rfl ?_
    refine h_getL dX12_isWord_9 f_X12_234_10 rfl rfl ?_
    refine h_lload_n dX12_isWord_12 rfl ?_
    refine h_lcmp dX12_isWord_13 ?_
    refine h_ifne (tgt := 21) dX12_isWord_14 rfl (fun c_14 => ?_) (fun c_14 => ?_)
    · rw [lg_0] at c_14
      refine h_iconst dX12_isWord_21 ci_0 ?_
      refine h_zreturn dX12_isWord_22 rfl (by decide) ?_
      exact h0 (fun z => c_14 z.2)
    · rw [lg_0] at c_14
      refine h_iconst dX12_isWord_17 ci_1 ?_
      refine h_goto (tgt := 22) dX12_isWord_18 rfl ?_
      refine h_zreturn dX12_isWord_22 rfl (by decide) ?_
      exact h1 ⟨c_5, c_14⟩
theorem r_isMark {l : Launch} {dp : Nat} {w : Int32} {I : hI} {J : hJ} {lt tx : Option Nat} {Q : hQ} (h1 : I 82 23 = nI 3 ∧ J 82 26 = w.toInt64 → Q (some (.int (nI 1))) hSH I J (hRR lt tx)) (h0 : ¬ (I 82 23 = nI 3 ∧ J 82 26 = w.toInt64) → Q (some (.int (nI 0))) hSH I J (hRR lt tx))  : HC l mX12_isMark dp 0 0 [.ref 82, .int w] hSH I J (hRR lt tx) Q := by
  refine HC.of (by decide +kernel) rfl (Nat.le_of_ble_eq_true rfl) ?_
  show HV l mX12_isMark dp 0 0 0 [some (.ref 82), some (.int w)] [] hSH I J (hRR lt tx) Q
  refine h_aload_n dX12_isMark_0 rfl ?_
  refine h_getI dX12_isMark_1 f_X12_238_10 rfl rfl ?_
  refine h_iconst dX12_isMark_4 ci_3 ?_
  refine h_icmpne (tgt := 22) dX12_isMark_5 rfl (fun c_5 => ?_) (fun c_5 => ?_)
  · refine h_iconst dX12_isMark_22 ci_0 ?_
    refine h_zreturn dX12_isMark_23 rfl (by decide) ?_
    exact h0 (fun z => c_5 z.1)
  · refine h_aload_n dX12_isMark_8 rfl ?_
    refine h_getL dX12_isMark_9 f_X12_234_10 rfl rfl ?_
    refine h_iload_n dX12_isMark_12 rfl ?_
    refine h_i2l dX12_isMark_13 ?_
    refine h_lcmp dX12_isMark_14 ?_
    refine h_ifne (tgt := 22) dX12_isMark_15 rfl (fun c_15 => ?_) (fun c_15 => ?_)
    · rw [lg_0] at c_15
      refine h_iconst dX12_isMark_22 ci_0 ?_
      refine h_zreturn dX12_isMark_23 rfl (by decide) ?_
      exact h0 (fun z => c_15 z.2)
    · rw [lg_0] at c_15
      refine h_iconst dX12_isMark_18 ci_1 ?_
      refine h_goto (tgt := 23) dX12_isMark_19 rfl ?_
      refine h_zreturn dX12_isMark_23 rfl (by decide) ?_
      exact h1 ⟨c_5, c_15⟩
theorem r_good1 {l : Launch} {dp : Nat} {I : hI} {J : hJ} {lt tx : Option Nat} {Q : hQ} (hf : I 82 27 = -1) (hQ : Q (some (.int (nI 1))) hSH I J (hRR lt tx))  : HC l mX12_isGood dp 0 0 [.ref 82] hSH I J (hRR lt tx) Q := by
  refine HC.of (by decide +kernel) rfl (Nat.le_of_ble_eq_true rfl) ?_
  show HV l mX12_isGood dp 0 0 0 [some (.ref 82)] [] hSH I J (hRR lt tx) Q
  refine h_aload_n dX12_isGood_0 rfl ?_
  refine h_getI dX12_isGood_1 f_X12_255_10 rfl hf ?_
  refine h_ifge (tgt := 11) dX12_isGood_4 rfl (fun c => absurd c (by decide)) (fun _ => ?_)
  refine h_iconst dX12_isGood_7 ci_1 ?_
  refine h_goto (tgt := 12) dX12_isGood_8 rfl ?_
  refine h_zreturn dX12_isGood_12 rfl (by decide) ?_
  exact hQ
theorem r_good0 {l : Launch} {dp : Nat} {f : Nat} {I : hI} {J : hJ} {lt tx : Option Nat} {Q : hQ} (hf : I 82 27 = nI f) (hf2 : f ≤ 200) (hQ : Q (some (.int (nI 0))) hSH I J (hRR lt tx))  : HC l mX12_isGood dp 0 0 [.ref 82] hSH I J (hRR lt tx) Q := by
  refine HC.of (by decide +kernel) rfl (Nat.le_of_ble_eq_true rfl) ?_
  show HV l mX12_isGood dp 0 0 0 [some (.ref 82)] [] hSH I J (hRR lt tx) Q
  refine h_aload_n dX12_isGood_0 rfl ?_
  refine h_getI dX12_isGood_1 f_X12_255_10 rfl hf ?_
  refine h_ifge (tgt := 11) dX12_isGood_4 rfl (fun c_4 => ?_) (fun c_4 => ?_)
  · rw [show (0 : Int32) = nI 0 from rfl, nI_leI (by omega) (by omega)] at c_4
    refine h_iconst dX12_isGood_11 ci_0 ?_
    refine h_zreturn dX12_isGood_12 rfl (by decide) ?_
    exact hQ
  · rw [show (0 : Int32) = nI 0 from rfl, nI_leI (by omega) (by omega)] at c_4
    omega
theorem r_faulty {l : Launch} {dp : Nat} {s : Nat} {I : hI} {J : hJ} {lt tx : Option Nat} {Q : hQ} (hf : I 82 27 = -1) (hs : I 82 24 = nI s) (hQ : Q none hSH (upI I 82 27 (nI s)) J (hRR lt tx))  : HC l mX12_faulty dp 0 0 [.ref 82] hSH I J (hRR lt tx) Q := by
  refine HC.of (by decide +kernel) rfl (Nat.le_of_ble_eq_true rfl) ?_
  show HV l mX12_faulty dp 0 0 0 [some (.ref 82)] [] hSH I J (hRR lt tx) Q
  refine h_aload_n dX12_faulty_0 rfl ?_
  refine h_aload_n dX12_faulty_1 rfl ?_
  refine h_getI dX12_faulty_2 f_X12_255_10 rfl hf ?_
  refine h_ifge (tgt := 15) dX12_faulty_5 rfl (fun c => absurd c (by decide)) (fun _ => ?_)
  refine h_aload_n dX12_faulty_8 rfl ?_
  refine h_getI dX12_faulty_9 f_X12_231_10 rfl hs ?_
  refine h_goto (tgt := 19) dX12_faulty_12 rfl ?_
  refine h_putI dX12_faulty_19 f_X12_255_10 p_X12_10_27 (fun h => by cases h) rfl ?_
  refine h_return dX12_faulty_22 rfl ?_
  exact hQ
theorem r_want1 {l : Launch} {dp : Nat} {tp : Nat → Nat} {nt e : Nat} {I : hI} {J : hJ} {lt tx : Option Nat} {Q : hQ} (hT : rT I nt tp) (he : e ≤ nt) (hK : RK I J tp nt e) (hf : I 82 27 = -1) (hQ : ∀ I2 v, SR I I2 → RK I2 (upJ J 82 26 v) tp nt (tE tp nt e) → Q none hSH I2 (upJ J 82 26 v) (hRR lt tx))  : HC l mX12_want (dp + 2) 0 0 [.ref 82, .int (nI 1)] hSH I J (hRR lt tx) Q := by
  refine HC.of (by decide +kernel) rfl (Nat.le_of_ble_eq_true rfl) ?_
  show HV l mX12_want (dp + 2) 0 0 0 [some (.ref 82), some (.int (nI 1))] [] hSH I J (hRR lt tx) Q
  refine h_aload_n dX12_want_0 rfl ?_
  refine h_cV0 dX12_want_1 k6_148 oVX12_isGood rfl rfl ?_
  refine r_good1 hf ?_
  refine h_ifeq (tgt := 22) dX12_want_4 rfl (fun c => absurd c (by decide)) (fun _ => ?_)
  refine h_iload_n dX12_want_7 rfl ?_
  refine h_ifeq (tgt := 18) dX12_want_8 rfl (fun c => absurd c (by decide)) (fun _ => ?_)
  refine h_aload_n dX12_want_11 rfl ?_
  refine h_cV0 dX12_want_12 k6_134 oVX12_advance rfl rfl ?_
  refine r_advance hT hK.2.1 (tE_rng tp he).2.1 (fun I2 v hS hK2 => ?_)
  refine h_goto (tgt := 22) dX12_want_15 rfl ?_
  refine h_return dX12_want_22 rfl ?_
  exact hQ I2 v hS hK2
theorem r_want0 {l : Launch} {dp : Nat} {tp : Nat → Nat} {nt e : Nat} {I : hI} {J : hJ} {lt tx : Option Nat} {Q : hQ} (hT : rT I nt tp) (he : e ≤ nt) (hK : RK I J tp nt e) (hf : I 82 27 = -1) (hQ : Q none hSH (upI I 82 27 (nI (tS tp nt e))) J (hRR lt tx))  : HC l mX12_want (dp + 2) 0 0 [.ref 82, .int (nI 0)] hSH I J (hRR lt tx) Q := by
  refine HC.of (by decide +kernel) rfl (Nat.le_of_ble_eq_true rfl) ?_
  show HV l mX12_want (dp + 2) 0 0 0 [some (.ref 82), some (.int (nI 0))] [] hSH I J (hRR lt tx) Q
  refine h_aload_n dX12_want_0 rfl ?_
  refine h_cV0 dX12_want_1 k6_148 oVX12_isGood rfl rfl ?_
  refine r_good1 hf ?_
  refine h_ifeq (tgt := 22) dX12_want_4 rfl (fun c => absurd c (by decide)) (fun _ => ?_)
  refine h_iload_n dX12_want_7 rfl ?_
  refine h_ifeq (tgt := 18) dX12_want_8 rfl (fun _ => ?_) (fun c => absurd (by decide) c)
  refine h_aload_n dX12_want_18 rfl ?_
  refine h_cV0 dX12_want_19 k6_161 oVX12_faulty rfl rfl ?_
  refine r_faulty hf hK.1 ?_
  refine h_return dX12_want_22 rfl ?_
  exact hQ
theorem r_wantF {l : Launch} {dp : Nat} {f : Nat} {b : Int32} {I : hI} {J : hJ} {lt tx : Option Nat} {Q : hQ} (hf : I 82 27 = nI f) (hf2 : f ≤ 200) (hQ : Q none hSH I J (hRR lt tx))  : HC l mX12_want (dp + 2) 0 0 [.ref 82, .int b] hSH I J (hRR lt tx) Q := by
  refine HC.of (by decide +kernel) rfl (Nat.le_of_ble_eq_true rfl) ?_
  show HV l mX12_want (dp + 2) 0 0 0 [some (.ref 82), some (.int b)] [] hSH I J (hRR lt tx) Q
  refine h_aload_n dX12_want_0 rfl ?_
  refine h_cV0 dX12_want_1 k6_148 oVX12_isGood rfl rfl ?_
  refine r_good0 hf hf2 ?_
  refine h_ifeq (tgt := 22) dX12_want_4 rfl (fun _ => ?_) (fun c => absurd (by decide) c)
  refine h_return dX12_want_22 rfl ?_
  exact hQ
theorem nL_l2i (n : Nat) : (nL n).toInt32 = nI n := by
  apply Int32.toBitVec_inj.mp
  show (BitVec.ofNat 64 n).signExtend 32 = BitVec.ofNat 32 n
  apply BitVec.eq_of_getLsbD_eq
  intro i hi
  rw [BitVec.getLsbD_signExtend, BitVec.getLsbD_ofNat, BitVec.getLsbD_ofNat]
  simp [hi, show i < 64 by omega]
theorem RK_num {I : hI} {J : hJ} {tp : Nat → Nat} {nt e : Nat} (he : e ≤ nt) (hK : RK I J tp nt e) (hc : tC tp nt e = 11) : (J 82 26).toInt32 = nI (tV tp nt e) := by
  obtain ⟨a, b, c, -⟩ := tC_11 he hc
  rw [(hK.2.2.2.1 a b).2 c]
  exact nL_l2i _
theorem r_wantNumber1 {l : Launch} {dp : Nat} {mo : Nat} {tp : Nat → Nat} {nt e : Nat} {I : hI} {J : hJ} {lt tx : Option Nat} {Q : hQ} (hb : ∀ j, j < nt → tp j < 256) (hT : rT I nt tp) (he : e ≤ nt) (hK : RK I J tp nt e) (hf : I 82 27 = -1) (hc : tC tp nt e = 11) (hm : tV tp nt e ≤ mo) (hm2 : mo ≤ 999) (hQ : ∀ I2 v, SR I I2 → RK I2 (upJ J 82 26 v) tp nt (tE tp nt e) → Q (some (.int (nI (tV tp nt e)))) hSH I2 (upJ J 82 26 v) (hRR lt tx))  : HC l mX12_wantNumber (dp + 3) 0 0 [.ref 82, .int (nI mo)] hSH I J (hRR lt tx) Q := by
  refine HC.of (by decide +kernel) rfl (Nat.le_of_ble_eq_true rfl) ?_
  show HV l mX12_wantNumber (dp + 3) 0 0 0 [some (.ref 82), some (.int (nI mo)), none] [] hSH I J (hRR lt tx) Q
  have r1 := tE_rng tp he
  have k1 := rk_num he hb hK
  have h200 := hT.2.1
  have k2 := k1.mpr hc
  have k3 := RK_num he hK hc
  refine h_aload_n dX12_wantNumber_0 rfl ?_
  refine h_getL dX12_wantNumber_1 f_X12_234_10 rfl rfl ?_
  refine h_l2i dX12_wantNumber_4 ?_
  refine h_istore_n dX12_wantNumber_5 (Nat.le_of_ble_eq_true rfl) ?_
  refine h_aload_n dX12_wantNumber_6 rfl ?_
  refine h_aload_n dX12_wantNumber_7 rfl ?_
  refine h_getI dX12_wantNumber_8 f_X12_238_10 rfl rfl ?_
  refine h_iconst dX12_wantNumber_11 ci_2 ?_
  refine h_icmpne (tgt := 37) dX12_wantNumber_12 rfl (fun c_12 => ?_) (fun c_12 => ?_)
  · exact absurd k2.1 c_12
  · refine h_aload_n dX12_wantNumber_15 rfl ?_
    refine h_getI dX12_wantNumber_16 f_X12_228_10 rfl hK.2.1 ?_
    refine h_aload_n dX12_wantNumber_19 rfl ?_
    refine h_getI dX12_wantNumber_20 f_X12_231_10 rfl hK.1 ?_
    refine h_isubN dX12_wantNumber_23 (by omega) ?_
    refine h_iconst dX12_wantNumber_24 ci_3 ?_
    refine h_icmpgt (tgt := 37) dX12_wantNumber_25 rfl (fun c_25 => ?_) (fun c_25 => ?_)
    · rw [nI_ltI (by omega) (by omega)] at c_25
      omega
    · rw [nI_ltI (by omega) (by omega)] at c_25
      refine h_iload_n dX12_wantNumber_28 rfl ?_
      refine h_iload_n dX12_wantNumber_29 rfl ?_
      refine h_icmpgt (tgt := 37) dX12_wantNumber_30 rfl (fun c_30 => ?_) (fun c_30 => ?_)
      · rw [k3, nI_ltI (by omega) (by omega)] at c_30
        omega
      · refine h_iconst dX12_wantNumber_33 ci_1 ?_
        refine h_goto (tgt := 38) dX12_wantNumber_34 rfl ?_
        refine h_cV1 dX12_wantNumber_38 k6_157 oVX12_want rfl rfl ?_
        refine r_want1 hT he hK hf (fun I2 v hS hK2 => ?_)
        refine h_iload_n dX12_wantNumber_41 rfl ?_
        refine h_ireturn dX12_wantNumber_42 rfl ?_
        rw [k3]
        exact hQ I2 v hS hK2
theorem r_wantNumber0 {l : Launch} {dp : Nat} {mo : Nat} {tp : Nat → Nat} {nt e : Nat} {I : hI} {J : hJ} {lt tx : Option Nat} {Q : hQ} (hb : ∀ j, j < nt → tp j < 256) (hT : rT I nt tp) (he : e ≤ nt) (hK : RK I J tp nt e) (hf : I 82 27 = -1) (hc : ¬ (tC tp nt e = 11 ∧ tV tp nt e ≤ mo)) (hm2 : mo ≤ 999) (hQ : ∀ z, Q (some (.int z)) hSH (upI I 82 27 (nI (tS tp nt e))) J (hRR lt tx))  : HC l mX12_wantNumber (dp + 3) 0 0 [.ref 82, .int (nI mo)] hSH I J (hRR lt tx) Q := by
  refine HC.of (by decide +kernel) rfl (Nat.le_of_ble_eq_true rfl) ?_
  show HV l mX12_wantNumber (dp + 3) 0 0 0 [some (.ref 82), some (.int (nI mo)), none] [] hSH I J (hRR lt tx) Q
  have r1 := tE_rng tp he
  have k1 := rk_num he hb hK
  have h200 := hT.2.1
  refine h_aload_n dX12_wantNumber_0 rfl ?_
  refine h_getL dX12_wantNumber_1 f_X12_234_10 rfl rfl ?_
  refine h_l2i dX12_wantNumber_4 ?_
  refine h_istore_n dX12_wantNumber_5 (Nat.le_of_ble_eq_true rfl) ?_
  refine h_aload_n dX12_wantNumber_6 rfl ?_
  refine h_aload_n dX12_wantNumber_7 rfl ?_
  refine h_getI dX12_wantNumber_8 f_X12_238_10 rfl rfl ?_
  refine h_iconst dX12_wantNumber_11 ci_2 ?_
  refine h_icmpne (tgt := 37) dX12_wantNumber_12 rfl (fun c_12 => ?_) (fun c_12 => ?_)
  · refine h_iconst dX12_wantNumber_37 ci_0 ?_
    refine h_cV1 dX12_wantNumber_38 k6_157 oVX12_want rfl rfl ?_
    refine r_want0 hT he hK hf ?_
    refine h_iload_n dX12_wantNumber_41 rfl ?_
    refine h_ireturn dX12_wantNumber_42 rfl ?_
    exact hQ _
  · refine h_aload_n dX12_wantNumber_15 rfl ?_
    refine h_getI dX12_wantNumber_16 f_X12_228_10 rfl hK.2.1 ?_
    refine h_aload_n dX12_wantNumber_19 rfl ?_
    refine h_getI dX12_wantNumber_20 f_X12_231_10 rfl hK.1 ?_
    refine h_isubN dX12_wantNumber_23 (by omega) ?_
    refine h_iconst dX12_wantNumber_24 ci_3 ?_
    refine h_icmpgt (tgt := 37) dX12_wantNumber_25 rfl (fun c_25 => ?_) (fun c_25 => ?_)
    · rw [nI_ltI (by omega) (by omega)] at c_25
      refine h_iconst dX12_wantNumber_37 ci_0 ?_
      refine h_cV1 dX12_wantNumber_38 k6_157 oVX12_want rfl rfl ?_
      refine r_want0 hT he hK hf ?_
      refine h_iload_n dX12_wantNumber_41 rfl ?_
      refine h_ireturn dX12_wantNumber_42 rfl ?_
      exact hQ _
    · rw [nI_ltI (by omega) (by omega)] at c_25
      refine h_iload_n dX12_wantNumber_28 rfl ?_
      refine h_iload_n dX12_wantNumber_29 rfl ?_
      refine h_icmpgt (tgt := 37) dX12_wantNumber_30 rfl (fun c_30 => ?_) (fun c_30 => ?_)
      · refine h_iconst dX12_wantNumber_37 ci_0 ?_
        refine h_cV1 dX12_wantNumber_38 k6_157 oVX12_want rfl rfl ?_
        refine r_want0 hT he hK hf ?_
        refine h_iload_n dX12_wantNumber_41 rfl ?_
        refine h_ireturn dX12_wantNumber_42 rfl ?_
        exact hQ _
      · have k2 := k1.mp ⟨c_12, by omega⟩
        have k3 := RK_num he hK k2
        have k4 := (tC_11 he k2).2.2.2
        rw [k3, nI_ltI (by omega) (by omega)] at c_30
        exact absurd ⟨k2, by omega⟩ hc
theorem r_emit {l : Launch} {dp : Nat} {fm : Nat} {v : Int32} {I : hI} {J : hJ} {lt tx : Option Nat} {Q : hQ} (h32 : I 82 32 = nI fm) (hfm : fm < 210) (hQ : Q none hSH (upI (upI I 97 fm v) 82 32 (nI (fm + 1))) J (hRR lt tx))  : HC l mX12_emit dp 0 0 [.ref 82, .int v] hSH I J (hRR lt tx) Q := by
  refine HC.of (by decide +kernel) rfl (Nat.le_of_ble_eq_true rfl) ?_
  show HV l mX12_emit dp 0 0 0 [some (.ref 82), some (.int v)] [] hSH I J (hRR lt tx) Q
  refine h_aload_n dX12_emit_0 rfl ?_
  refine h_getR dX12_emit_1 f_X12_53_10 rfl rfl ?_
  refine h_aload_n dX12_emit_4 rfl ?_
  refine h_getI dX12_emit_5 f_X12_272_10 rfl h32 ?_
  refine h_iload_n dX12_emit_8 rfl ?_
  refine h_iastN (j := fm) dX12_emit_9 rfl rfl (by omega) rfl ?_
  refine h_aload_n dX12_emit_10 rfl ?_
  refine h_dup dX12_emit_11 rfl ?_
  refine h_getI dX12_emit_12 f_X12_272_10 rfl h32 ?_
  refine h_iconst dX12_emit_15 ci_1 ?_
  refine h_iaddN dX12_emit_16 ?_
  refine h_putI dX12_emit_17 f_X12_272_10 p_X12_10_32 (fun h => by cases h) rfl ?_
  refine h_return dX12_emit_20 rfl ?_
  exact hQ
def vW (c : Nat) : Nat := if c = 6 then 100 else if c = 7 then 101 else if c = 8 then 102 else if c = 9 then 103 else 0
def vC (tp : Nat → Nat) (nt e : Nat) : Nat := if vW (tC tp nt e) = 0 then 3000 + tV tp nt e else vW (tC tp nt e)
theorem r_wordHere {l : Launch} {dp : Nat} {tp : Nat → Nat} {nt e : Nat} {I : hI} {J : hJ} {lt tx : Option Nat} {Q : hQ} (hb : ∀ j, j < nt → tp j < 256) (he : e ≤ nt) (hK : RK I J tp nt e) (hQ : Q (some (.int (nI (vW (tC tp nt e))))) hSH I J (hRR lt tx))  : HC l mX12_wordHere (dp + 1) 0 0 [.ref 82] hSH I J (hRR lt tx) Q := by
  refine HC.of (by decide +kernel) rfl (Nat.le_of_ble_eq_true rfl) ?_
  show HV l mX12_wordHere (dp + 1) 0 0 0 [some (.ref 82)] [] hSH I J (hRR lt tx) Q
  refine h_aload_n dX12_wordHere_0 rfl ?_
  refine h_ldc2 dX12_wordHere_1 k6_195 ?_
  refine h_cV1 dX12_wordHere_4 k6_153 oVX12_isWord rfl rfl ?_
  refine r_isWord (fun b6 => ?_) (fun b6 => ?_)
  · have b6 := (rk_6 he hb hK).mp b6
    refine h_ifeq (tgt := 15) dX12_wordHere_7 rfl (fun c => absurd c (by decide)) (fun _ => ?_)
    refine h_bipush dX12_wordHere_10 cb_100 ?_
    refine h_goto (tgt := 61) dX12_wordHere_12 rfl ?_
    refine h_ireturn dX12_wordHere_61 rfl ?_
    have hv : vW (tC tp nt e) = 100 := by unfold vW; rw [if_pos b6]
    rw [hv] at hQ
    exact hQ
  · have b6 : ¬ tC tp nt e = 6 := fun z => b6 ((rk_6 he hb hK).mpr z)
    refine h_ifeq (tgt := 15) dX12_wordHere_7 rfl (fun _ => ?_) (fun c => absurd (by decide) c)
    refine h_aload_n dX12_wordHere_15 rfl ?_
    refine h_ldc2 dX12_wordHere_16 k6_196 ?_
    refine h_cV1 dX12_wordHere_19 k6_153 oVX12_isWord rfl rfl ?_
    refine r_isWord (fun b7 => ?_) (fun b7 => ?_)
    · have b7 := (rk_7 he hb hK).mp b7
      refine h_ifeq (tgt := 30) dX12_wordHere_22 rfl (fun c => absurd c (by decide)) (fun _ => ?_)
      refine h_bipush dX12_wordHere_25 cb_101 ?_
      refine h_goto (tgt := 61) dX12_wordHere_27 rfl ?_
      refine h_ireturn dX12_wordHere_61 rfl ?_
      have hv : vW (tC tp nt e) = 101 := by unfold vW; rw [if_neg b6, if_pos b7]
      rw [hv] at hQ
      exact hQ
    · have b7 : ¬ tC tp nt e = 7 := fun z => b7 ((rk_7 he hb hK).mpr z)
      refine h_ifeq (tgt := 30) dX12_wordHere_22 rfl (fun _ => ?_) (fun c => absurd (by decide) c)
      refine h_aload_n dX12_wordHere_30 rfl ?_
      refine h_ldc2 dX12_wordHere_31 k6_197 ?_
      refine h_cV1 dX12_wordHere_34 k6_153 oVX12_isWord rfl rfl ?_
      refine r_isWord (fun b8 => ?_) (fun b8 => ?_)
      · have b8 := (rk_8 he hb hK).mp b8
        refine h_ifeq (tgt := 45) dX12_wordHere_37 rfl (fun c => absurd c (by decide)) (fun _ => ?_)
        refine h_bipush dX12_wordHere_40 cb_102 ?_
        refine h_goto (tgt := 61) dX12_wordHere_42 rfl ?_
        refine h_ireturn dX12_wordHere_61 rfl ?_
        have hv : vW (tC tp nt e) = 102 := by unfold vW; rw [if_neg b6, if_neg b7, if_pos b8]
        rw [hv] at hQ
        exact hQ
      · have b8 : ¬ tC tp nt e = 8 := fun z => b8 ((rk_8 he hb hK).mpr z)
        refine h_ifeq (tgt := 45) dX12_wordHere_37 rfl (fun _ => ?_) (fun c => absurd (by decide) c)
        refine h_aload_n dX12_wordHere_45 rfl ?_
        refine h_ldc2 dX12_wordHere_46 k6_198 ?_
        refine h_cV1 dX12_wordHere_49 k6_153 oVX12_isWord rfl rfl ?_
        refine r_isWord (fun b9 => ?_) (fun b9 => ?_)
        · have b9 := (rk_9 he hb hK).mp b9
          refine h_ifeq (tgt := 60) dX12_wordHere_52 rfl (fun c => absurd c (by decide)) (fun _ => ?_)
          refine h_bipush dX12_wordHere_55 cb_103 ?_
          refine h_goto (tgt := 61) dX12_wordHere_57 rfl ?_
          refine h_ireturn dX12_wordHere_61 rfl ?_
          have hv : vW (tC tp nt e) = 103 := by unfold vW; rw [if_neg b6, if_neg b7, if_neg b8, if_pos b9]
          rw [hv] at hQ
          exact hQ
        · have b9 : ¬ tC tp nt e = 9 := fun z => b9 ((rk_9 he hb hK).mpr z)
          refine h_ifeq (tgt := 60) dX12_wordHere_52 rfl (fun _ => ?_) (fun c => absurd (by decide) c)
          refine h_iconst dX12_wordHere_60 ci_0 ?_
          refine h_ireturn dX12_wordHere_61 rfl ?_
          have hv : vW (tC tp nt e) = 0 := by unfold vW; rw [if_neg b6, if_neg b7, if_neg b8, if_neg b9]
          rw [hv] at hQ
          exact hQ
theorem vW_v {c : Nat} (h : ¬ isV c) : vW c = 0 := by
  unfold isV at h
  unfold vW
  rw [if_neg (fun z => h (.inl (by omega))), if_neg (fun z => h (.inl (by omega))), if_neg (fun z => h (.inl (by omega))), if_neg (fun z => h (.inl (by omega)))]
theorem vW_le (c : Nat) : vW c = 0 ∨ (100 ≤ vW c ∧ vW c ≤ 103 ∧ 6 ≤ c ∧ c ≤ 9) := by
  unfold vW
  by_cases h6 : c = 6
  · rw [if_pos h6]; omega
  · by_cases h7 : c = 7
    · rw [if_neg h6, if_pos h7]; omega
    · by_cases h8 : c = 8
      · rw [if_neg h6, if_neg h7, if_pos h8]; omega
      · by_cases h9 : c = 9
        · rw [if_neg h6, if_neg h7, if_neg h8, if_pos h9]; omega
        · rw [if_neg h6, if_neg h7, if_neg h8, if_neg h9]; omega
theorem vW_0 {c : Nat} (h : vW c = 0) : ¬ (6 ≤ c ∧ c ≤ 9) := fun z => by
  unfold vW at h
  by_cases h6 : c = 6
  · rw [if_pos h6] at h; omega
  · by_cases h7 : c = 7
    · rw [if_neg h6, if_pos h7] at h; omega
    · by_cases h8 : c = 8
      · rw [if_neg h6, if_neg h7, if_pos h8] at h; omega
      · rw [if_neg h6, if_neg h7, if_neg h8, if_pos (by omega)] at h; omega
theorem r_wantValue1 {l : Launch} {dp : Nat} {fm : Nat} {tp : Nat → Nat} {nt e : Nat} {I : hI} {J : hJ} {lt tx : Option Nat} {Q : hQ} (hb : ∀ j, j < nt → tp j < 256) (hT : rT I nt tp) (he : e ≤ nt) (hK : RK I J tp nt e) (hf : I 82 27 = -1) (h32 : I 82 32 = nI fm) (hfm : fm < 210) (hV : isV (tC tp nt e)) (hQ : ∀ I2 v, SR (upI (upI I 97 fm (nI (vC tp nt e))) 82 32 (nI (fm + 1))) I2 → RK I2 (upJ J 82 26 v) tp nt (tE tp nt e) → Q none hSH I2 (upJ J 82 26 v) (hRR lt tx))  : HC l mX12_wantValue (dp + 4) 0 0 [.ref 82] hSH I J (hRR lt tx) Q := by
  refine HC.of (by decide +kernel) rfl (Nat.le_of_ble_eq_true rfl) ?_
  have hw := vW_le (tC tp nt e)
  show HV l mX12_wantValue (dp + 4) 0 0 0 [some (.ref 82), none, none] [] hSH I J (hRR lt tx) Q
  refine h_aload_n dX12_wantValue_0 rfl ?_
  refine h_cV0 dX12_wantValue_1 k6_191 oVX12_wordHere rfl rfl ?_
  refine r_wordHere hb he hK ?_
  refine h_istore_n dX12_wantValue_4 (Nat.le_of_ble_eq_true rfl) ?_
  refine h_iload_n dX12_wantValue_5 rfl ?_
  refine h_ifle (tgt := 21) dX12_wantValue_6 rfl (fun c_6 => ?_) (fun c_6 => ?_)
  · rw [show (0 : Int32) = nI 0 from rfl, nI_leI (by omega) (by omega)] at c_6
    refine h_aload_n dX12_wantValue_21 rfl ?_
    refine h_sipush dX12_wantValue_22 cs_999 ?_
    refine h_cV1 dX12_wantValue_25 k6_165 oVX12_wantNumber rfl rfl ?_
    have h0 : vW (tC tp nt e) = 0 := by omega
    have hc : tC tp nt e = 11 := by
      rcases hV with q | q
      · exact absurd q (vW_0 h0)
      · exact q
    have h9 := (tC_11 he hc).2.2.2
    refine r_wantNumber1 (mo := 999) hb hT he hK hf hc (by omega) (by omega) (fun I2 v hS hK2 => ?_)
    refine h_istore_n dX12_wantValue_28 (Nat.le_of_ble_eq_true rfl) ?_
    refine h_aload_n dX12_wantValue_29 rfl ?_
    refine h_sipush dX12_wantValue_30 cs_3000 ?_
    refine h_iload_n dX12_wantValue_33 rfl ?_
    refine h_iaddN dX12_wantValue_34 ?_
    refine h_cV1 dX12_wantValue_35 k6_199 oVX12_emit rfl rfl ?_
    have hvc : vC tp nt e = 3000 + tV tp nt e := if_pos h0
    rw [← hvc]
    refine r_emit ((SR_f hS (by decide) (by decide) (by decide)).trans h32) hfm ?_
    refine h_return dX12_wantValue_38 rfl ?_
    refine hQ _ v (SR_iff.mpr ⟨fun x h82 => ?_, fun j q23 q24 q25 => ?_⟩) (RK_se EM_se hK2)
    · by_cases h97 : x = 97
      · subst h97
        rw [upI_n _ _ _ h82, upI_n _ _ _ h82, upI_s, upI_s, SR_a hS h82]
      · rw [upI_n _ _ _ h82, upI_n _ _ _ h82, upI_n _ _ _ h97, upI_n _ _ _ h97, SR_a hS h82]
    · by_cases q32 : j = 32
      · subst q32
        rw [upI_s, upI_s, upd_s, upd_s]
      · rw [upI_f q32, upI_f q32, upI_n _ _ _ (by decide), upI_n _ _ _ (by decide), SR_f hS q23 q24 q25]
  · rw [show (0 : Int32) = nI 0 from rfl, nI_leI (by omega) (by omega)] at c_6
    refine h_aload_n dX12_wantValue_9 rfl ?_
    refine h_iload_n dX12_wantValue_10 rfl ?_
    refine h_cV1 dX12_wantValue_11 k6_199 oVX12_emit rfl rfl ?_
    have hvc : vC tp nt e = vW (tC tp nt e) := if_neg (by omega)
    rw [← hvc]
    refine r_emit h32 hfm ?_
    refine h_aload_n dX12_wantValue_14 rfl ?_
    refine h_cV0 dX12_wantValue_15 k6_134 oVX12_advance rfl rfl ?_
    refine r_advance (e := tE tp nt e) (rT_rf (SE_rf EM_se) hT) (RK_se EM_se hK).2.1 (tE_rng tp he).2.1 (fun I2 v hS hK2 => ?_)
    refine h_goto (tgt := 38) dX12_wantValue_18 rfl ?_
    refine h_return dX12_wantValue_38 rfl ?_
    exact hQ I2 v hS hK2
theorem r_wantValue0 {l : Launch} {dp : Nat} {fm : Nat} {tp : Nat → Nat} {nt e : Nat} {I : hI} {J : hJ} {lt tx : Option Nat} {Q : hQ} (hb : ∀ j, j < nt → tp j < 256) (hT : rT I nt tp) (he : e ≤ nt) (hK : RK I J tp nt e) (hf : I 82 27 = -1) (h32 : I 82 32 = nI fm) (hfm : fm < 210) (hV : ¬ isV (tC tp nt e)) (hQ : ∀ z, Q none hSH (upI (upI (upI I 82 27 (nI (tS tp nt e))) 97 fm z) 82 32 (nI (fm + 1))) J (hRR lt tx))  : HC l mX12_wantValue (dp + 4) 0 0 [.ref 82] hSH I J (hRR lt tx) Q := by
  refine HC.of (by decide +kernel) rfl (Nat.le_of_ble_eq_true rfl) ?_
  have hw := vW_v hV
  show HV l mX12_wantValue (dp + 4) 0 0 0 [some (.ref 82), none, none] [] hSH I J (hRR lt tx) Q
  refine h_aload_n dX12_wantValue_0 rfl ?_
  refine h_cV0 dX12_wantValue_1 k6_191 oVX12_wordHere rfl rfl ?_
  refine r_wordHere hb he hK ?_
  rw [hw]
  refine h_istore_n dX12_wantValue_4 (Nat.le_of_ble_eq_true rfl) ?_
  refine h_iload_n dX12_wantValue_5 rfl ?_
  refine h_ifle (tgt := 21) dX12_wantValue_6 rfl (fun _ => ?_) (fun c => absurd (by decide) c)
  refine h_aload_n dX12_wantValue_21 rfl ?_
  refine h_sipush dX12_wantValue_22 cs_999 ?_
  refine h_cV1 dX12_wantValue_25 k6_165 oVX12_wantNumber rfl rfl ?_
  refine r_wantNumber0 (mo := 999) hb hT he hK hf (fun z => hV (.inr z.1)) (by omega) (fun z => ?_)
  refine h_istore_n dX12_wantValue_28 (Nat.le_of_ble_eq_true rfl) ?_
  refine h_aload_n dX12_wantValue_29 rfl ?_
  refine h_sipush dX12_wantValue_30 cs_3000 ?_
  refine h_iload_n dX12_wantValue_33 rfl ?_
  refine h_iadd dX12_wantValue_34 ?_
  refine h_cV1 dX12_wantValue_35 k6_199 oVX12_emit rfl rfl ?_
  refine r_emit (fm := fm) h32 hfm ?_
  refine h_return dX12_wantValue_38 rfl ?_
  exact hQ _
