def rcW (l : Launch) (w dp : Nat) : Prop := ∀ (tp : Nat → Nat) (nt e m N B op : Nat) (fs : List qF) (r : Nat ⊕ (Nat × qP)) (I : hI) (J : hJ) (lt : Option Nat) (Q : hQ) (hX : CX I tp nt) (h : e ≤ nt) (hT : CT I tp nt e) (hf : I 55 13 = -1) (hm : I 55 3 = nI m) (h5 : 5 * m ≤ 2 * e) (hN : nt < N + e) (hB : B * 4 ^ w ≤ 128) (hw : op + w = 3) (hfs : fs.length = op) (hr : run tp nt N none e ((none, none, 0) :: fs) = r) (hF : ∀ I2 f m2, r = Sum.inl f → f ≤ 200 → PF I I2 → I2 55 13 = nI f → I2 55 3 = nI m2 → m2 ≤ 100 → Q none hSH I2 J (hRR lt (some 61))) (hO : ∀ I2 e2 N2 m2 o a v, run tp nt N2 (some v) e2 ((o, a, 0) :: fs) = r → ¬ tC tp nt e2 = 3 → ¬ tC tp nt e2 = 4 → nt < N2 + e2 → e2 ≤ nt → PF I I2 → CT I2 tp nt e2 → I2 55 13 = -1 → I2 55 3 = nI m2 → 5 * m2 + 1 + 2 * e ≤ 2 * e2 + 5 * m → PB I I2 m → CP I2 m m2 (B) (oj o (aj a v)) → Q none hSH I2 J (hRR lt (some 61))) , HC l mX3_readCond dp 0 0 [.ref 55, .int (nI op)] hSH I J (hRR lt (some 61)) Q
theorem cf_le {tp : Nat → Nat} {nt e f : Nat} (h : e ≤ nt) (hc : cf tp nt e = Sum.inl f) : f ≤ nt := by
  have he1 := (tE_rng tp h).2.1
  have he2 := (tE_rng tp he1).2.1
  by_cases h1 : isV (tC tp nt e)
  · by_cases h2 : 80 ≤ tC tp nt (tE tp nt e) ∧ tC tp nt (tE tp nt e) ≤ 82
    · by_cases h3 : isV (tC tp nt (tE tp nt (tE tp nt e)))
      · rw [cf_4 h1 h2 h3] at hc; cases hc
      · rw [cf_3 h1 h2 h3] at hc; cases hc; exact (tk_rng tp he2).2.1
    · rw [cf_2 h1 h2] at hc; cases hc; exact (tk_rng tp he1).2.1
  · rw [cf_1 h1] at hc; cases hc; exact (tk_rng tp h).2.1
theorem xr_0 {P : qP} {k : Nat} (h : k % 2 = 0) : xr P k = P := by
  funext x y z
  unfold xr
  rw [decide_eq_false (by omega)]
  simp
theorem xr_1 {P : qP} {k : Nat} (h : k % 2 = 1) : xr P k = fun x y z => !(P x y z) := by
  funext x y z
  unfold xr
  rw [decide_eq_true h]
  simp
theorem pw4 {B w2 : Nat} (hB : B * 4 ^ (w2 + 1) ≤ 128) : 4 * B * 4 ^ w2 ≤ 128 := by
  rw [Nat.pow_succ] at hB
  rw [Nat.mul_comm 4 B, Nat.mul_assoc, Nat.mul_comm 4 (4 ^ w2)]
  exact hB
theorem pw1 {B w : Nat} (hB : B * 4 ^ w ≤ 128) : B ≤ 128 := Nat.le_trans (Nat.le_mul_of_pos_right B (Nat.pow_pos (by omega))) hB
theorem c_readOpened {l : Launch} {dp : Nat} {tp : Nat → Nat} {nt e m N B op w : Nat} {fs : List qF} {r : Nat ⊕ (Nat × qP)} {I : hI} {J : hJ} {lt : Option Nat} {k : Nat} {o a : Option qP} {Q : hQ} (IH : ∀ w2, w = w2 + 1 → rcW l w2 dp) (hX : CX I tp nt) (h : e ≤ nt) (hT : CT I tp nt e) (hf : I 55 13 = -1) (hm : I 55 3 = nI m) (h5 : 5 * m ≤ 2 * e) (hN : nt < N + e) (hB : B * 4 ^ w ≤ 128) (hw : op + w = 3) (hfs : fs.length = op) (ho : tC tp nt e = 60) (hr : run tp nt N none e ((o, a, k) :: fs) = r) (hF : ∀ I2 f m2, r = Sum.inl f → f ≤ 200 → PF I I2 → I2 55 13 = nI f → I2 55 3 = nI m2 → m2 ≤ 100 → Q none hSH I2 J (hRR lt (some 61))) (hO : ∀ I2 e2 N2 m2 P, run tp nt N2 (some (xr P k)) e2 ((o, a, 0) :: fs) = r → nt < N2 + e2 → e2 ≤ nt → PF I I2 → CT I2 tp nt e2 → I2 55 13 = -1 → I2 55 3 = nI m2 → 5 * m2 + 1 + 2 * e ≤ 2 * e2 + 5 * m → PB I I2 m → CP I2 m m2 (4 * B) (P) → Q none hSH I2 J (hRR lt (some 61)))  : HC l mX3_readOpened (dp + 1) 0 0 [.ref 55, .int (nI (op + 1))] hSH I J (hRR lt (some 61)) Q := by
  refine HC.of (by decide +kernel) rfl (Nat.le_of_ble_eq_true rfl) ?_
  show HV l mX3_readOpened (dp + 1) 0 0 0 [some (.ref 55), some (.int (nI (op + 1)))] [] hSH I J (hRR lt (some 61)) Q
  have hb : ∀ j, j < nt → tp j < 256 := fun j hj => (hX.2.2 j hj).1
  have h200 := hX.1
  have he1 := (tE_rng tp h).2.1
  have hs0 := tk_rng tp h
  obtain ⟨N1, rfl⟩ : ∃ N1, N = N1 + 1 := ⟨N - 1, by omega⟩
  have l1 := (tE_rng tp h).2.2.1 (by omega)
  refine h_iload_n dX3_readOpened_0 rfl ?_
  refine h_iconst dX3_readOpened_1 ci_3 ?_
  refine h_icmple (tgt := 10) dX3_readOpened_2 rfl (fun c_2 => ?_) (fun c_2 => ?_)
  · rw [nI_leI (by omega) (by omega)] at c_2
    refine h_aload_n dX3_readOpened_10 rfl ?_
    refine h_cV0 dX3_readOpened_11 k3_204 oVX3_step rfl rfl ?_
    refine c_step hX hT.2.1 he1 (fun I2 hS2 hT2 => ?_)
    have hX2 := CX_pf (SF_pf hS2) hX
    have hf2 : I2 55 13 = -1 := (SF_k hS2 (by decide) (by decide) (by decide) (by decide)).trans hf
    have hm2 : I2 55 3 = nI m := (SF_k hS2 (by decide) (by decide) (by decide) (by decide)).trans hm
    obtain ⟨w2, rfl⟩ : ∃ w2, w = w2 + 1 := ⟨w - 1, by omega⟩
    refine h_aload_n dX3_readOpened_14 rfl ?_
    refine h_iload_n dX3_readOpened_15 rfl ?_
    refine h_cV1 dX3_readOpened_16 k3_217 oVX3_readCond rfl rfl ?_
    refine IH w2 rfl tp nt (tE tp nt e) m N1 (4 * B) (op + 1) ((o, a, k) :: fs) r I2 J lt _ hX2 he1 hT2 hf2 hm2 (by omega) (by omega) (pw4 hB) (by omega) (by rw [List.length_cons, hfs]) (by rw [← hr, run_op ho (by omega)]) (fun I3 f m3 hrf hf200 hP3 hf3 hm3 hm3b => ?_) (fun I3 e3 N3 m3 o3 a3 v3 hr3 n3 n4 hN3 he3 hP3 hT3 hf3 hm3 hq3 hb3 hc3 => ?_)
    · refine h_aload_n dX3_readOpened_19 rfl ?_
      refine h_getI dX3_readOpened_20 f_X3_53_3 rfl hf3 ?_
      refine h_iconst dX3_readOpened_23 ci_m1 ?_
      refine h_icmpeq (tgt := 28) dX3_readOpened_24 rfl (fun c_24 => ?_) (fun c_24 => ?_)
      · exact absurd c_24 (nI_nn (by omega) (by decide))
      · refine h_return dX3_readOpened_27 rfl ?_
        exact hF _ f m3 hrf hf200 (PF_tr (SF_pf hS2) hP3) hf3 hm3 hm3b
    · obtain ⟨N3, rfl⟩ : ∃ q, N3 = q + 1 := ⟨N3 - 1, by omega⟩
      refine h_aload_n dX3_readOpened_19 rfl ?_
      refine h_getI dX3_readOpened_20 f_X3_53_3 rfl hf3 ?_
      refine h_iconst dX3_readOpened_23 ci_m1 ?_
      refine h_icmpeq (tgt := 28) dX3_readOpened_24 rfl (fun _ => ?_) (fun c => absurd (by decide) c)
      refine h_aload_n dX3_readOpened_28 rfl ?_
      refine h_getI dX3_readOpened_29 f_X3_47_3 rfl hT3.2.2.1 ?_
      refine h_bipush dX3_readOpened_32 cb_41 ?_
      refine h_icmpeq (tgt := 42) dX3_readOpened_34 rfl (fun c_34 => ?_) (fun c_34 => ?_)
      · refine h_aload_n dX3_readOpened_42 rfl ?_
        refine h_cV0 dX3_readOpened_43 k3_204 oVX3_step rfl rfl ?_
        refine c_step (CX_pf hP3 hX2) hT3.2.1 (tE_rng tp he3).2.1 (fun I4 hS4 hT4 => ?_)
        have hf4 : I4 55 13 = -1 := (SF_k hS4 (by decide) (by decide) (by decide) (by decide)).trans hf3
        have hm4 : I4 55 3 = nI m3 := (SF_k hS4 (by decide) (by decide) (by decide) (by decide)).trans hm3
        refine h_return dX3_readOpened_46 rfl ?_
        have hc := (tI_m41 he3 hb).mp c_34
        have l3 := (tE_rng tp he3).2.2.1 (by omega)
        have s3 := (tk_rng tp he3).1
        exact hO _ _ N3 m3 _ (by rw [← hr3, run_cl hc]) (by omega) (tE_rng tp he3).2.1 (PF_tr (SF_pf hS2) (PF_tr hP3 (SF_pf hS4))) hT4 hf4 hm4 (by omega) (PB_tr (PB_tr (SF_b hS2 m) hb3 (Nat.le_refl m)) (SF_b hS4 m) (Nat.le_refl m)) (CP_fr hc3 (SF_b hS4 _))
      · refine h_aload_n dX3_readOpened_37 rfl ?_
        refine h_cV0 dX3_readOpened_38 k3_213 oVX3_fail rfl rfl ?_
        refine c_fail hf3 hT3.1 ?_
        refine h_return dX3_readOpened_41 rfl ?_
        exact hF _ _ m3 (by rw [← hr3]; exact run_bad n4 n3 (fun z => c_34 ((tI_m41 he3 hb).mpr z))) (by have := (tk_rng tp he3).2.1; omega) (PF_tr (SF_pf hS2) (PF_tr hP3 FF_pf)) rfl hm3 (by omega)
  · rw [nI_leI (by omega) (by omega)] at c_2
    refine h_aload_n dX3_readOpened_5 rfl ?_
    refine h_cV0 dX3_readOpened_6 k3_213 oVX3_fail rfl rfl ?_
    refine c_fail hf hT.1 ?_
    refine h_return dX3_readOpened_9 rfl ?_
    exact hF _ _ m (by rw [← hr]; exact run_op3 ho (by omega)) (by omega) FF_pf rfl hm (by omega)
