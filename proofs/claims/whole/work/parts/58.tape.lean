theorem by_low (x : Int64) : x.toInt32.toInt8.toInt32.toInt8.toInt32 = (x &&& 255).toInt32.toInt8.toInt32 := by
  apply Int32.toBitVec_inj.mp
  simp
  ext i hi
  simp
  intro _
  have key : ∀ i, (h : i < 32) → (4294967295#32)[i] = true := by decide
  exact key i hi
theorem by_nat (x : Int64) : ∃ b, b < 256 ∧ (x &&& 255).toInt32 = nI b := by
  refine ⟨(x &&& 255).toBitVec.toNat, ?_, ?_⟩
  · simp
    have := Nat.and_le_right (n := x.toBitVec.toNat) (m := 255)
    omega
  · apply Int32.toBitVec_inj.mp
    unfold nI
    simp
    rw [BitVec.signExtend_eq_setWidth_of_le _ (by decide)]
/-- the tape of both -/
def cT (I : hI) (nt : Nat) (tp : Nat → Nat) : Prop := I 0 7 = nI nt ∧ nt ≤ 200 ∧ ∀ j, j < nt → tp j < 256 ∧ I 61 j = (nI (tp j)).toInt8.toInt32
def rT (I : hI) (nt : Nat) (tp : Nat → Nat) : Prop := I 82 22 = nI nt ∧ nt ≤ 200 ∧ ∀ j, j < nt → tp j < 256 ∧ I 96 j = nI (tp j)
def ush (v : Int64) (i : Nat) : Int64 := (v.toUInt64 >>> ((nI (8 * i)).toInt64.toUInt64 &&& Int64.toUInt64 63)).toInt64
noncomputable def byt (v : Int64) (i : Nat) : Nat := Classical.choose (by_nat (ush v i))
theorem byt_r (v : Int64) (i : Nat) : byt v i < 256 ∧ (ush v i &&& 255).toInt32 = nI (byt v i) := Classical.choose_spec (by_nat (ush v i))
theorem byt_c (v : Int64) (i : Nat) : (ush v i).toInt32.toInt8.toInt32.toInt8.toInt32 = (nI (byt v i)).toInt8.toInt32 := by
  rw [by_low, (byt_r v i).2]
noncomputable def tpU (tp : Nat → Nat) (nt : Nat) (v : Int64) (k : Nat) : Nat → Nat := fun j => if nt ≤ j ∧ j < nt + k then byt v (j - nt) else tp j
def FC (I I2 : hI) : Prop := ∃ g61 v0_7, I2 = (upI (upA I 61 g61) 0 7 v0_7)
theorem FC_iff {I I2 : hI} : FC I I2 ↔ (∀ x, x ≠ 61 → x ≠ 0 → I2 x = I x) ∧ ∀ j, j ≠ 7 → I2 0 j = I 0 j := by
  constructor
  · rintro ⟨g61, v0_7, rfl⟩
    refine ⟨fun x h61 h0 => ?_, fun j q7 => ?_⟩
    · simp [upA, upI, h61, h0]
    · simp [upA, upI, upd, q7]
  · rintro ⟨h, f0⟩
    refine ⟨I2 61, I2 0 7, ?_⟩
    funext x
    by_cases e61 : x = 61
    · subst e61; simp [upA, upI]
    · skip
      by_cases e0 : x = 0
      · subst e0
        funext j
        by_cases q7 : j = 7
        · subst q7; simp [upA, upI, upd]
        · skip
          simp [upA, upI, upd, q7, f0 j q7]
      · skip
        simp [upA, upI, e61, e0, h x e61 e0]
theorem FC_id (I : hI) : FC I I := FC_iff.mpr ⟨fun x _ _ => rfl, fun j _ => rfl⟩
theorem FC_tr {I I2 I3 : hI} (k1 : FC I I2) (k2 : FC I2 I3) : FC I I3 := FC_iff.mpr ⟨fun x h61 h0 => ((FC_iff.mp k2).1 x h61 h0).trans ((FC_iff.mp k1).1 x h61 h0), fun j q7 => ((FC_iff.mp k2).2 j q7).trans ((FC_iff.mp k1).2 j q7)⟩
def FR (I I2 : hI) : Prop := ∃ g96 v82_22, I2 = (upI (upA I 96 g96) 82 22 v82_22)
theorem FR_iff {I I2 : hI} : FR I I2 ↔ (∀ x, x ≠ 96 → x ≠ 82 → I2 x = I x) ∧ ∀ j, j ≠ 22 → I2 82 j = I 82 j := by
  constructor
  · rintro ⟨g96, v82_22, rfl⟩
    refine ⟨fun x h96 h82 => ?_, fun j q22 => ?_⟩
    · simp [upA, upI, h96, h82]
    · simp [upA, upI, upd, q22]
  · rintro ⟨h, f82⟩
    refine ⟨I2 96, I2 82 22, ?_⟩
    funext x
    by_cases e96 : x = 96
    · subst e96; simp [upA, upI]
    · skip
      by_cases e82 : x = 82
      · subst e82
        funext j
        by_cases q22 : j = 22
        · subst q22; simp [upA, upI, upd]
        · skip
          simp [upA, upI, upd, q22, f82 j q22]
      · skip
        simp [upA, upI, e96, e82, h x e96 e82]
theorem FR_id (I : hI) : FR I I := FR_iff.mpr ⟨fun x _ _ => rfl, fun j _ => rfl⟩
theorem FR_tr {I I2 I3 : hI} (k1 : FR I I2) (k2 : FR I2 I3) : FR I I3 := FR_iff.mpr ⟨fun x h96 h82 => ((FR_iff.mp k2).1 x h96 h82).trans ((FR_iff.mp k1).1 x h96 h82), fun j q22 => ((FR_iff.mp k2).2 j q22).trans ((FR_iff.mp k1).2 j q22)⟩
theorem tpU_s {tp : Nat → Nat} {nt i : Nat} {v : Int64} : tpU tp nt v (i + 1) (nt + i) = byt v i := by
  unfold tpU
  rw [if_pos ⟨by omega, by omega⟩, Nat.add_sub_cancel_left]
theorem tpU_n {tp : Nat → Nat} {nt i j : Nat} {v : Int64} (h : j < nt + i) : tpU tp nt v (i + 1) j = tpU tp nt v i j := by
  unfold tpU
  by_cases e : nt ≤ j
  · rw [if_pos ⟨e, by omega⟩, if_pos ⟨e, h⟩]
  · rw [if_neg (fun z => e z.1), if_neg (fun z => e z.1)]
theorem tpU_0 {tp : Nat → Nat} {nt j : Nat} {v : Int64} (h : j < nt) : tpU tp nt v 0 j = tp j := by
  unfold tpU
  rw [if_neg (by omega)]
theorem c_feed {l : Launch} {dp : Nat} {nt : Nat} {tp : Nat → Nat} {I : hI} {J : hJ} {lt tx : Option Nat} {v : Int64} {n : Int32} {Q : hQ} (hT : cT I nt tp) (hB : ¬ (nI 1 ≤ n ∧ n ≤ nI 8) → Q (some (.int (-1))) hSH I J (hRR lt tx)) (hF : ∀ k, n = nI k → 200 < nt + k → Q (some (.int (-2))) hSH I J (hRR lt tx)) (hO : ∀ k, n = nI k → 1 ≤ k → k ≤ 8 → nt + k ≤ 200 → ∀ I2, FC I I2 → cT I2 (nt + k) (tpU tp nt v k) → Q (some (.int (nI (nt + k)))) hSH I2 J (hRR lt tx)) : HC l mX11_feed (dp + 1) 0 0 [.ref 0, .long v, .int n] hSH I J (hRR lt tx) Q := by
  refine HC.of (by decide +kernel) rfl (Nat.le_of_ble_eq_true rfl) ?_
  obtain ⟨hnt, ht2, htp⟩ := id hT
  have Lo : ∀ (k : Nat), n = nI k → 1 ≤ k → k ≤ 8 → nt + k ≤ 200 → ∀ (m i : Nat) (I2 : hI), k - i < m → i ≤ k → FC I I2 → I2 0 7 = nI (nt) → (∀ j, j < nt + i → tpU tp nt v i j < 256 ∧ I2 61 j = (nI (tpU tp nt v i j)).toInt8.toInt32) → HV l mX11_feed (dp + 1) 0 0 30 [some (.ref 0), some (.long v), none, some (.int (nI k)), some (.int (nI i))] [] hSH I2 J (hRR lt tx) Q := by
    intro k hk k1 k8 k2 m
    induction m with
    | zero => intro i I2 h1 h2 hP hn hc; omega
    | succ m ih =>
      intro i I2 h1 h2 hP hn hc
      have hP0 := hP
      obtain ⟨g61, v0_7, rfl⟩ := hP
      refine h_iload dX11_feed_30 rfl ?_
      refine h_iload_n dX11_feed_32 rfl ?_
      refine h_icmpge (tgt := 63) dX11_feed_33 rfl (fun c_33 => ?_) (fun c_33 => ?_)
      · rw [nI_leI (by omega) (by omega)] at c_33
        refine h_aload_n dX11_feed_63 rfl ?_
        refine h_dup dX11_feed_64 rfl ?_
        refine h_getI dX11_feed_65 f_X11_43_9 rfl hn ?_
        refine h_iload_n dX11_feed_68 rfl ?_
        refine h_iaddN dX11_feed_69 ?_
        refine h_putI dX11_feed_70 f_X11_43_9 p_X11_9_7 (fun h => by cases h) rfl ?_
        refine h_aload_n dX11_feed_73 rfl ?_
        refine h_getI dX11_feed_74 f_X11_43_9 rfl (show _ = nI (nt + k) from rfl) ?_
        refine h_ireturn dX11_feed_77 rfl ?_
        have ek : k = i := by omega
        subst ek
        refine hO k hk k1 k8 k2 _ (FC_tr hP0 (FC_iff.mpr ⟨fun x h61 h0 => by simp [upI, h61, h0], fun j q => by simp [upI, upd, q]⟩)) ⟨rfl, k2, hc⟩
      · rw [nI_leI (by omega) (by omega)] at c_33
        refine h_aload_n dX11_feed_36 rfl ?_
        refine h_getR dX11_feed_37 f_X11_39_9 rfl rfl ?_
        refine h_aload_n dX11_feed_40 rfl ?_
        refine h_getI dX11_feed_41 f_X11_43_9 rfl hn ?_
        refine h_iload dX11_feed_44 rfl ?_
        refine h_iaddN dX11_feed_46 ?_
        refine h_lload_n dX11_feed_47 rfl ?_
        refine h_bipush dX11_feed_48 cb_8 ?_
        refine h_iload dX11_feed_50 rfl ?_
        refine h_imulN dX11_feed_52 ?_
        refine h_lushr dX11_feed_53 ?_
        refine h_l2i dX11_feed_54 ?_
        refine h_i2b dX11_feed_55 ?_
        refine h_bastN (j := nt + i) dX11_feed_56 rfl rfl (by omega) rfl ?_
        refine h_iinc (v := nI (i + 1)) dX11_feed_57 rfl (nI_1 _) (Nat.le_of_ble_eq_true rfl) ?_
        refine h_goto (tgt := 30) dX11_feed_60 rfl ?_
        refine ih (i + 1) _ (by omega) (by omega) ?_ ?_ ?_
        · exact FC_tr hP0 (FC_iff.mpr ⟨fun x h61 h0 => by simp [upI, h61, h0], fun j q => by simp [upI, upd, q]⟩)
        · exact hn
        · intro j hj
          show _ ∧ upd _ (nt + i) _ j = _
          by_cases e : j = nt + i
          · subst e
            rw [upd_s, tpU_s]
            exact ⟨(byt_r v i).1, byt_c v i⟩
          · rw [upd_n _ _ e, tpU_n (by omega)]
            exact hc j (by omega)
  show HV l mX11_feed (dp + 1) 0 0 0 [some (.ref 0), some (.long v), none, some (.int n), none] [] hSH I J (hRR lt tx) Q
  refine h_iload_n dX11_feed_0 rfl ?_
  refine h_iconst dX11_feed_1 ci_1 ?_
  refine h_bipush dX11_feed_2 cb_8 ?_
  refine h_cS3 dX11_feed_4 k2_154 oSX11_within rfl ?_
  refine c_X11_within (fun b1 => ?_) (fun b1 => ?_)
  · obtain ⟨k, rfl, k1, k8⟩ := rng_ex (by omega) (by omega) b1.1 b1.2
    refine h_ifne (tgt := 12) dX11_feed_7 rfl (fun _ => ?_) (fun c => absurd c (by decide))
    refine h_aload_n dX11_feed_12 rfl ?_
    refine h_getI dX11_feed_13 f_X11_43_9 rfl hnt ?_
    refine h_iload_n dX11_feed_16 rfl ?_
    refine h_iaddN dX11_feed_17 ?_
    refine h_sipush dX11_feed_18 cs_200 ?_
    refine h_icmple (tgt := 27) dX11_feed_21 rfl (fun c_21 => ?_) (fun c_21 => ?_)
    · rw [nI_leI (by omega) (by omega)] at c_21
      refine h_iconst dX11_feed_27 ci_0 ?_
      refine h_istore dX11_feed_28 (Nat.le_of_ble_eq_true rfl) ?_
      exact Lo k rfl k1 k8 (by omega) (k + 1) 0 _ (by omega) (by omega) (FC_id I) hnt (fun j hj => by rw [tpU_0 (by omega)]; exact htp j (by omega))
    · rw [nI_leI (by omega) (by omega)] at c_21
      refine h_bipush dX11_feed_24 cb_m2 ?_
      refine h_ireturn dX11_feed_26 rfl ?_
      exact hF k rfl (by omega)
  · refine h_ifne (tgt := 12) dX11_feed_7 rfl (fun c => absurd (by decide) c) (fun _ => ?_)
    refine h_iconst dX11_feed_10 ci_m1 ?_
    refine h_ireturn dX11_feed_11 rfl ?_
    exact hB b1
theorem r_feed {l : Launch} {dp : Nat} {nt : Nat} {tp : Nat → Nat} {I : hI} {J : hJ} {lt tx : Option Nat} {v : Int64} {n : Int32} {Q : hQ} (hT : rT I nt tp) (hB : ¬ (nI 1 ≤ n ∧ n ≤ nI 8) → Q (some (.int (-1))) hSH I J (hRR lt tx)) (hF : ∀ k, n = nI k → 200 < nt + k → Q (some (.int (-2))) hSH I J (hRR lt tx)) (hO : ∀ k, n = nI k → 1 ≤ k → k ≤ 8 → nt + k ≤ 200 → ∀ I2, FR I I2 → rT I2 (nt + k) (tpU tp nt v k) → Q (some (.int (nI (nt + k)))) hSH I2 J (hRR lt tx)) : HC l mX12_feed (dp + 1) 0 0 [.ref 82, .long v, .int n] hSH I J (hRR lt tx) Q := by
  refine HC.of (by decide +kernel) rfl (Nat.le_of_ble_eq_true rfl) ?_
  obtain ⟨hnt, ht2, htp⟩ := id hT
  have Lo : ∀ (k : Nat), n = nI k → 1 ≤ k → k ≤ 8 → nt + k ≤ 200 → ∀ (m i : Nat) (I2 : hI), k - i < m → i ≤ k → FR I I2 → I2 82 22 = nI (nt + i) → (∀ j, j < nt + i → tpU tp nt v i j < 256 ∧ I2 96 j = nI (tpU tp nt v i j)) → HV l mX12_feed (dp + 1) 0 0 30 [some (.ref 82), some (.long v), none, some (.int (nI k)), some (.int (nI i))] [] hSH I2 J (hRR lt tx) Q := by
    intro k hk k1 k8 k2 m
    induction m with
    | zero => intro i I2 h1 h2 hP hn hc; omega
    | succ m ih =>
      intro i I2 h1 h2 hP hn hc
      have hP0 := hP
      obtain ⟨g96, v82_22, rfl⟩ := hP
      refine h_iload dX12_feed_30 rfl ?_
      refine h_iload_n dX12_feed_32 rfl ?_
      refine h_icmpge (tgt := 73) dX12_feed_33 rfl (fun c_33 => ?_) (fun c_33 => ?_)
      · rw [nI_leI (by omega) (by omega)] at c_33
        refine h_aload_n dX12_feed_73 rfl ?_
        refine h_getI dX12_feed_74 f_X12_223_10 rfl hn ?_
        refine h_ireturn dX12_feed_77 rfl ?_
        have ek : k = i := by omega
        subst ek
        exact hO k hk k1 k8 k2 _ hP0 ⟨hn, k2, hc⟩
      · rw [nI_leI (by omega) (by omega)] at c_33
        refine h_aload_n dX12_feed_36 rfl ?_
        refine h_getR dX12_feed_37 f_X12_50_10 rfl rfl ?_
        refine h_aload_n dX12_feed_40 rfl ?_
        refine h_getI dX12_feed_41 f_X12_223_10 rfl hn ?_
        refine h_lload_n dX12_feed_44 rfl ?_
        refine h_bipush dX12_feed_45 cb_8 ?_
        refine h_iload dX12_feed_47 rfl ?_
        refine h_imulN dX12_feed_49 ?_
        refine h_lushr dX12_feed_50 ?_
        refine h_ldc2 dX12_feed_51 k6_129 ?_
        refine h_land dX12_feed_54 ?_
        refine h_l2i dX12_feed_55 ?_
        refine h_iastN (j := nt + i) dX12_feed_56 rfl rfl (by omega) rfl ?_
        refine h_aload_n dX12_feed_57 rfl ?_
        refine h_dup dX12_feed_58 rfl ?_
        refine h_getI dX12_feed_59 f_X12_223_10 rfl hn ?_
        refine h_iconst dX12_feed_62 ci_1 ?_
        refine h_iaddN dX12_feed_63 ?_
        refine h_putI dX12_feed_64 f_X12_223_10 p_X12_10_22 (fun h => by cases h) rfl ?_
        refine h_iinc (v := nI (i + 1)) dX12_feed_67 rfl (nI_1 _) (Nat.le_of_ble_eq_true rfl) ?_
        refine h_goto (tgt := 30) dX12_feed_70 rfl ?_
        refine ih (i + 1) _ (by omega) (by omega) ?_ ?_ ?_
        · exact FR_tr hP0 (FR_iff.mpr ⟨fun x h96 h82 => by simp [upI, h96, h82], fun j q => by simp [upI, upd, q]⟩)
        · exact rfl
        · intro j hj
          show _ ∧ upd _ (nt + i) _ j = _
          by_cases e : j = nt + i
          · subst e
            rw [upd_s, tpU_s]
            exact ⟨(byt_r v i).1, (byt_r v i).2⟩
          · rw [upd_n _ _ e, tpU_n (by omega)]
            exact hc j (by omega)
  show HV l mX12_feed (dp + 1) 0 0 0 [some (.ref 82), some (.long v), none, some (.int n), none] [] hSH I J (hRR lt tx) Q
  refine h_iload_n dX12_feed_0 rfl ?_
  refine h_iconst dX12_feed_1 ci_1 ?_
  refine h_bipush dX12_feed_2 cb_8 ?_
  refine h_cS3 dX12_feed_4 k5_172 oSX12_in rfl ?_
  refine c_X12_in (fun b1 => ?_) (fun b1 => ?_)
  · obtain ⟨k, rfl, k1, k8⟩ := rng_ex (by omega) (by omega) b1.1 b1.2
    refine h_ifne (tgt := 12) dX12_feed_7 rfl (fun _ => ?_) (fun c => absurd c (by decide))
    refine h_aload_n dX12_feed_12 rfl ?_
    refine h_getI dX12_feed_13 f_X12_223_10 rfl hnt ?_
    refine h_iload_n dX12_feed_16 rfl ?_
    refine h_iaddN dX12_feed_17 ?_
    refine h_sipush dX12_feed_18 cs_200 ?_
    refine h_icmple (tgt := 27) dX12_feed_21 rfl (fun c_21 => ?_) (fun c_21 => ?_)
    · rw [nI_leI (by omega) (by omega)] at c_21
      refine h_iconst dX12_feed_27 ci_0 ?_
      refine h_istore dX12_feed_28 (Nat.le_of_ble_eq_true rfl) ?_
      exact Lo k rfl k1 k8 (by omega) (k + 1) 0 _ (by omega) (by omega) (FR_id I) hnt (fun j hj => by rw [tpU_0 (by omega)]; exact htp j (by omega))
    · rw [nI_leI (by omega) (by omega)] at c_21
      refine h_bipush dX12_feed_24 cb_m2 ?_
      refine h_ireturn dX12_feed_26 rfl ?_
      exact hF k rfl (by omega)
  · refine h_ifne (tgt := 12) dX12_feed_7 rfl (fun c => absurd (by decide) c) (fun _ => ?_)
    refine h_iconst dX12_feed_10 ci_m1 ?_
    refine h_ireturn dX12_feed_11 rfl ?_
    exact hB b1
