noncomputable def cif (p : Prop) (a b : Int32) : Int32 := @ite _ p (Classical.propDecidable p) a b
theorem cif_t {p : Prop} {a b : Int32} (h : p) : cif p a b = a := @if_pos _ (Classical.propDecidable p) h _ _ _
theorem cif_f {p : Prop} {a b : Int32} (h : ¬ p) : cif p a b = b := @if_neg _ (Classical.propDecidable p) h _ _ _
def mendOk (nl : Nat) (x wt n : Int32) : Prop := isIx x nl ∧ ((wt = nI 0 ∧ (-99 ≤ n ∧ n ≤ nI 99)) ∨ (wt = nI 1 ∧ (nI 1 ≤ n ∧ n ≤ nI 9)))
theorem netW_rs {ns nl k : Nat} {pl fa fb sl : Nat → Nat} {rs : Nat → Int32} {r : Int32} (hw : netW ns nl pl fa fb sl rs) (hr : -99 ≤ r.toInt ∧ r.toInt ≤ 99) : netW ns nl pl fa fb sl (upd rs k r) := by
  obtain ⟨hn6, hl12, hW, hp99, hr99⟩ := hw
  refine ⟨hn6, hl12, hW, hp99, fun j hj => ?_⟩
  by_cases e : j = k
  · subst e; rw [upd_s]; exact hr
  · rw [upd_n _ _ e]; exact hr99 j hj
theorem netW_sl {ns nl k w : Nat} {pl fa fb sl : Nat → Nat} {rs : Nat → Int32} (hw : netW ns nl pl fa fb sl rs) (h1 : 1 ≤ w) (h9 : w ≤ 9) : netW ns nl pl fa fb (upn sl k w) rs := by
  obtain ⟨hn6, hl12, hW, hp99, hr99⟩ := hw
  refine ⟨hn6, hl12, fun j hj => ?_, hp99, hr99⟩
  obtain ⟨w1, w2, w3, w4, w5⟩ := hW j hj
  by_cases e : j = k
  · subst e; rw [upn_s]; exact ⟨w1, w2, w3, h1, h9⟩
  · rw [upn_n _ _ e]; exact ⟨w1, w2, w3, w4, w5⟩
theorem upd_any {g f : Nat → Int32} {n k : Nat} {v : Int32} (h : ∀ s, s < n → g s = f s) : ∀ s, s < n → upd g k v s = upd f k v s := by
  intro s hs
  by_cases e : s = k
  · subst e; rw [upd_s, upd_s]
  · rw [upd_n _ _ e, upd_n _ _ e]; exact h s hs
theorem upn_any {g : Nat → Int32} {f : Nat → Nat} {n k v : Nat} (h : ∀ s, s < n → g s = nI (f s)) : ∀ s, s < n → upd g k (nI v) s = nI (upn f k v s) := by
  intro s hs
  by_cases e : s = k
  · subst e; rw [upd_s, upn_s]
  · rw [upd_n _ _ e, upn_n _ _ e]; exact h s hs
theorem c_mend {l : Launch} {dp : Nat} {ns nl : Nat} {pl fa fb sl : Nat → Nat} {rs : Nat → Int32} {I : hI} {J : hJ} {lt tx : Option Nat} {x wt n : Int32} {Q : hQ} (hN : cN I 2 ns nl pl fa fb sl rs) (hw : netW ns nl pl fa fb sl rs) (hB : ¬ mendOk nl x wt n → Q (some (.int (-10000001))) hSH I J (hRR lt tx)) (hR : ∀ k, k < nl → x = nI k → wt = nI 0 → (-99 ≤ n.toInt ∧ n.toInt ≤ 99) → ∀ g1 g2 g3, (∀ s, s < ns → g1 s = enc (dist fa fb sl nl s)) → (∀ s, s < ns → g2 s = lsI fa fb sl (dist fa fb sl nl) nl s) → (∀ s, s < ns → g3 s = lvl fa fb sl (upd rs k n) nl s) → Q (some (.int (rs k))) hSH (upA (upA (upA (upI I 6 k n) 8 g1) 9 g2) 10 g3) J (hRR lt tx)) (hS : ∀ k w, k < nl → x = nI k → wt = nI 1 → n = nI w → 1 ≤ w → w ≤ 9 → ∀ g1 g2 g3, (∀ s, s < ns → g1 s = enc (dist fa fb (upn sl k w) nl s)) → (∀ s, s < ns → g2 s = lsI fa fb (upn sl k w) (dist fa fb (upn sl k w) nl) nl s) → (∀ s, s < ns → g3 s = lvl fa fb (upn sl k w) rs nl s) → Q (some (.int (nI (sl k)))) hSH (upA (upA (upA (upI I 7 k (nI w)) 8 g1) 9 g2) 10 g3) J (hRR lt tx)) : HC l mX11_mend (dp + 3) 0 0 [.ref 0, .int x, .int wt, .int n] hSH I J (hRR lt tx) Q := by
  refine HC.of (by decide +kernel) rfl (Nat.le_of_ble_eq_true rfl) ?_
  obtain ⟨hns, hnl, hpl, hlg⟩ := id hN
  obtain ⟨hn6, hl12, hW, hp99, hr99⟩ := id hw
  by_cases e_0 : wt = nI 0
  · subst e_0
    show HV l mX11_mend (dp + 3) 0 0 0 [some (.ref 0), some (.int x), some (.int (nI 0)), some (.int n), none] [] hSH I J (hRR lt tx) Q
    refine h_iload_n dX11_mend_0 rfl ?_
    refine h_iconst dX11_mend_1 ci_0 ?_
    refine h_aload_n dX11_mend_2 rfl ?_
    refine h_getR dX11_mend_3 f_X11_20_9 rfl rfl ?_
    refine h_getI dX11_mend_6 f_X11_124_5 rfl hnl ?_
    refine h_iconst dX11_mend_9 ci_1 ?_
    refine h_isub dX11_mend_10 ?_
    refine h_cS3 dX11_mend_11 k2_154 oSX11_within rfl ?_
    refine c_X11_within (fun b1 => ?_) (fun b1 => ?_)
    · obtain ⟨k, hk, rfl⟩ := (isIx_iff (by omega)).mp b1
      refine h_ifne (tgt := 20) dX11_mend_14 rfl (fun _ => ?_) (fun c => absurd c (by decide))
      refine h_iload_n dX11_mend_20 rfl ?_
      refine h_ifne (tgt := 62) dX11_mend_21 rfl (fun c => absurd (by decide) c) (fun _ => ?_)
      refine h_iload_n dX11_mend_24 rfl ?_
      refine h_cS1 dX11_mend_25 k2_192 oSX11_isRise rfl ?_
      refine c_X11_isRise (fun b2 => ?_) (fun b2 => ?_)
      · refine h_ifeq (tgt := 62) dX11_mend_28 rfl (fun c => absurd c (by decide)) (fun _ => ?_)
        refine h_aload_n dX11_mend_31 rfl ?_
        refine h_getR dX11_mend_32 f_X11_20_9 rfl rfl ?_
        refine h_getR dX11_mend_35 f_X11_132_5 rfl rfl ?_
        refine h_iload_n dX11_mend_38 rfl ?_
        refine h_ialdN (j := k) dX11_mend_39 rfl rfl (by omega) rfl (hlg _ (by omega)).2.2.1 ?_
        refine h_istore dX11_mend_40 (Nat.le_of_ble_eq_true rfl) ?_
        refine h_aload_n dX11_mend_42 rfl ?_
        refine h_getR dX11_mend_43 f_X11_20_9 rfl rfl ?_
        refine h_getR dX11_mend_46 f_X11_132_5 rfl rfl ?_
        refine h_iload_n dX11_mend_49 rfl ?_
        refine h_iload_n dX11_mend_50 rfl ?_
        refine h_iastN (j := k) dX11_mend_51 rfl rfl (by omega) rfl ?_
        refine h_aload_n dX11_mend_52 rfl ?_
        refine h_getR dX11_mend_53 f_X11_20_9 rfl rfl ?_
        refine h_cV0 dX11_mend_56 k2_207 oVX5_carry rfl rfl ?_
        have hN2 : cN (upI I 6 k n) 2 ns nl pl fa fb sl (upd rs k n) := ⟨hns, hnl, hpl, fun j hj => ⟨(hlg j hj).1, (hlg j hj).2.1, upd_any (fun j hj => (hlg j hj).2.2.1) j hj, (hlg j hj).2.2.2⟩⟩
        refine c_carry_2 hN2 (netW_rs hw (r99 b2)) (fun g1 g2 g3 e1 e2 e3 => ?_)
        refine h_iload dX11_mend_59 rfl ?_
        refine h_ireturn dX11_mend_61 rfl ?_
        exact hR k hk rfl rfl (r99 b2) g1 g2 g3 e1 e2 e3
      · refine h_ifeq (tgt := 62) dX11_mend_28 rfl (fun _ => ?_) (fun c => absurd (by decide) c)
        refine h_iload_n dX11_mend_62 rfl ?_
        refine h_iconst dX11_mend_63 ci_1 ?_
        refine h_icmpne (tgt := 105) dX11_mend_64 rfl (fun _ => ?_) (fun c => absurd c (by decide))
        refine h_ldc dX11_mend_105 k2_206 ?_
        refine h_ireturn dX11_mend_107 rfl ?_
        exact hB (fun z => z.2.elim (fun q => b2 q.2) (fun q => absurd q.1 (by decide)))
    · refine h_ifne (tgt := 20) dX11_mend_14 rfl (fun c => absurd (by decide) c) (fun _ => ?_)
      refine h_ldc dX11_mend_17 k2_206 ?_
      refine h_ireturn dX11_mend_19 rfl ?_
      exact hB (fun z => b1 ((isIx_iff (by omega)).mpr z.1))
  by_cases e_1 : wt = nI 1
  · subst e_1
    show HV l mX11_mend (dp + 3) 0 0 0 [some (.ref 0), some (.int x), some (.int (nI 1)), some (.int n), none] [] hSH I J (hRR lt tx) Q
    refine h_iload_n dX11_mend_0 rfl ?_
    refine h_iconst dX11_mend_1 ci_0 ?_
    refine h_aload_n dX11_mend_2 rfl ?_
    refine h_getR dX11_mend_3 f_X11_20_9 rfl rfl ?_
    refine h_getI dX11_mend_6 f_X11_124_5 rfl hnl ?_
    refine h_iconst dX11_mend_9 ci_1 ?_
    refine h_isub dX11_mend_10 ?_
    refine h_cS3 dX11_mend_11 k2_154 oSX11_within rfl ?_
    refine c_X11_within (fun b1 => ?_) (fun b1 => ?_)
    · obtain ⟨k, hk, rfl⟩ := (isIx_iff (by omega)).mp b1
      refine h_ifne (tgt := 20) dX11_mend_14 rfl (fun _ => ?_) (fun c => absurd c (by decide))
      refine h_iload_n dX11_mend_20 rfl ?_
      refine h_ifne (tgt := 62) dX11_mend_21 rfl (fun _ => ?_) (fun c => absurd c (by decide))
      refine h_iload_n dX11_mend_62 rfl ?_
      refine h_iconst dX11_mend_63 ci_1 ?_
      refine h_icmpne (tgt := 105) dX11_mend_64 rfl (fun c => absurd (by decide) c) (fun _ => ?_)
      refine h_iload_n dX11_mend_67 rfl ?_
      refine h_cS1 dX11_mend_68 k2_195 oSX11_isSlip rfl ?_
      refine c_X11_isSlip (fun b2 => ?_) (fun b2 => ?_)
      · obtain ⟨w, rfl, hw1, hw9⟩ := rng_ex (by omega) (by omega) b2.1 b2.2
        refine h_ifeq (tgt := 105) dX11_mend_71 rfl (fun c => absurd c (by decide)) (fun _ => ?_)
        refine h_aload_n dX11_mend_74 rfl ?_
        refine h_getR dX11_mend_75 f_X11_20_9 rfl rfl ?_
        refine h_getR dX11_mend_78 f_X11_138_5 rfl rfl ?_
        refine h_iload_n dX11_mend_81 rfl ?_
        refine h_ialdN (j := k) dX11_mend_82 rfl rfl (by omega) rfl (hlg _ (by omega)).2.2.2 ?_
        refine h_istore dX11_mend_83 (Nat.le_of_ble_eq_true rfl) ?_
        refine h_aload_n dX11_mend_85 rfl ?_
        refine h_getR dX11_mend_86 f_X11_20_9 rfl rfl ?_
        refine h_getR dX11_mend_89 f_X11_138_5 rfl rfl ?_
        refine h_iload_n dX11_mend_92 rfl ?_
        refine h_iload_n dX11_mend_93 rfl ?_
        refine h_iastN (j := k) dX11_mend_94 rfl rfl (by omega) rfl ?_
        refine h_aload_n dX11_mend_95 rfl ?_
        refine h_getR dX11_mend_96 f_X11_20_9 rfl rfl ?_
        refine h_cV0 dX11_mend_99 k2_207 oVX5_carry rfl rfl ?_
        have hN2 : cN (upI I 7 k (nI w)) 2 ns nl pl fa fb (upn sl k w) rs := ⟨hns, hnl, hpl, fun j hj => ⟨(hlg j hj).1, (hlg j hj).2.1, (hlg j hj).2.2.1, upn_any (fun j hj => (hlg j hj).2.2.2) j hj⟩⟩
        refine c_carry_2 hN2 (netW_sl hw hw1 hw9) (fun g1 g2 g3 e1 e2 e3 => ?_)
        refine h_iload dX11_mend_102 rfl ?_
        refine h_ireturn dX11_mend_104 rfl ?_
        exact hS k w hk rfl rfl rfl hw1 hw9 g1 g2 g3 e1 e2 e3
      · refine h_ifeq (tgt := 105) dX11_mend_71 rfl (fun _ => ?_) (fun c => absurd (by decide) c)
        refine h_ldc dX11_mend_105 k2_206 ?_
        refine h_ireturn dX11_mend_107 rfl ?_
        exact hB (fun z => z.2.elim (fun q => absurd q.1 (by decide)) (fun q => b2 q.2))
    · refine h_ifne (tgt := 20) dX11_mend_14 rfl (fun c => absurd (by decide) c) (fun _ => ?_)
      refine h_ldc dX11_mend_17 k2_206 ?_
      refine h_ireturn dX11_mend_19 rfl ?_
      exact hB (fun z => b1 ((isIx_iff (by omega)).mpr z.1))
  show HV l mX11_mend (dp + 3) 0 0 0 [some (.ref 0), some (.int x), some (.int wt), some (.int n), none] [] hSH I J (hRR lt tx) Q
  refine h_iload_n dX11_mend_0 rfl ?_
  refine h_iconst dX11_mend_1 ci_0 ?_
  refine h_aload_n dX11_mend_2 rfl ?_
  refine h_getR dX11_mend_3 f_X11_20_9 rfl rfl ?_
  refine h_getI dX11_mend_6 f_X11_124_5 rfl hnl ?_
  refine h_iconst dX11_mend_9 ci_1 ?_
  refine h_isub dX11_mend_10 ?_
  refine h_cS3 dX11_mend_11 k2_154 oSX11_within rfl ?_
  refine c_X11_within (fun b1 => ?_) (fun b1 => ?_)
  · obtain ⟨k, hk, rfl⟩ := (isIx_iff (by omega)).mp b1
    refine h_ifne (tgt := 20) dX11_mend_14 rfl (fun _ => ?_) (fun c => absurd c (by decide))
    refine h_iload_n dX11_mend_20 rfl ?_
    refine h_ifne (tgt := 62) dX11_mend_21 rfl (fun c_21 => ?_) (fun c_21 => ?_)
    · refine h_iload_n dX11_mend_62 rfl ?_
      refine h_iconst dX11_mend_63 ci_1 ?_
      refine h_icmpne (tgt := 105) dX11_mend_64 rfl (fun c_64 => ?_) (fun c_64 => ?_)
      · refine h_ldc dX11_mend_105 k2_206 ?_
        refine h_ireturn dX11_mend_107 rfl ?_
        exact hB (fun z => z.2.elim (fun q => e_0 q.1) (fun q => e_1 q.1))
      · exact absurd c_64 e_1
    · exact absurd c_21 e_0
  · refine h_ifne (tgt := 20) dX11_mend_14 rfl (fun c => absurd (by decide) c) (fun _ => ?_)
    refine h_ldc dX11_mend_17 k2_206 ?_
    refine h_ireturn dX11_mend_19 rfl ?_
    exact hB (fun z => b1 ((isIx_iff (by omega)).mpr z.1))
theorem r_mend {l : Launch} {dp : Nat} {ns nl : Nat} {pl fa fb sl : Nat → Nat} {rs : Nat → Int32} {I : hI} {J : hJ} {lt tx : Option Nat} {x wt n : Int32} {Q : hQ} (hN : rN I ns nl pl fa fb sl rs) (hw : netW ns nl pl fa fb sl rs) (hB : ¬ mendOk nl x wt n → Q (some (.int (-10000001))) hSH I J (hRR lt tx)) (hR : ∀ k, k < nl → x = nI k → wt = nI 0 → (-99 ≤ n.toInt ∧ n.toInt ≤ 99) → Q (some (.int (rs k))) hSH (upI I 84 (4 * k + 2) n) J (hRR lt tx)) (hS : ∀ k w, k < nl → x = nI k → wt = nI 1 → n = nI w → 1 ≤ w → w ≤ 9 → Q (some (.int (nI (sl k)))) hSH (upI I 84 (4 * k + 3) (nI w)) J (hRR lt tx)) : HC l mX12_mend (dp + 1) 0 0 [.ref 82, .int x, .int wt, .int n] hSH I J (hRR lt tx) Q := by
  refine HC.of (by decide +kernel) rfl (Nat.le_of_ble_eq_true rfl) ?_
  obtain ⟨hns, hnl, hpl, hlg⟩ := id hN
  obtain ⟨hn6, hl12, hW, hp99, hr99⟩ := id hw
  by_cases e_0 : wt = nI 0
  · subst e_0
    show HV l mX12_mend (dp + 1) 0 0 0 [some (.ref 82), some (.int x), some (.int (nI 0)), some (.int n), none] [] hSH I J (hRR lt tx) Q
    refine h_iload_n dX12_mend_0 rfl ?_
    refine h_iconst dX12_mend_1 ci_0 ?_
    refine h_aload_n dX12_mend_2 rfl ?_
    refine h_getI dX12_mend_3 f_X12_120_10 rfl hnl ?_
    refine h_iconst dX12_mend_6 ci_1 ?_
    refine h_isub dX12_mend_7 ?_
    refine h_cS3 dX12_mend_8 k5_172 oSX12_in rfl ?_
    refine c_X12_in (fun b1 => ?_) (fun b1 => ?_)
    · obtain ⟨k, hk, rfl⟩ := (isIx_iff (by omega)).mp b1
      refine h_ifeq (tgt := 51) dX12_mend_11 rfl (fun c => absurd c (by decide)) (fun _ => ?_)
      refine h_iload_n dX12_mend_14 rfl ?_
      refine h_iconst dX12_mend_15 ci_0 ?_
      refine h_iconst dX12_mend_16 ci_1 ?_
      refine h_cS3 dX12_mend_17 k5_172 oSX12_in rfl ?_
      refine c_X12_in (fun b3 => ?_) (fun b3 => ?_)
      · refine h_ifeq (tgt := 51) dX12_mend_20 rfl (fun c => absurd c (by decide)) (fun _ => ?_)
        refine h_iload_n dX12_mend_23 rfl ?_
        refine h_iload_n dX12_mend_24 rfl ?_
        refine h_ifne (tgt := 33) dX12_mend_25 rfl (fun c => absurd (by decide) c) (fun _ => ?_)
        refine h_bipush dX12_mend_28 cb_m99 ?_
        refine h_goto (tgt := 34) dX12_mend_30 rfl ?_
        refine h_iload_n dX12_mend_34 rfl ?_
        refine h_ifne (tgt := 43) dX12_mend_35 rfl (fun c => absurd (by decide) c) (fun _ => ?_)
        refine h_bipush dX12_mend_38 cb_99 ?_
        refine h_goto (tgt := 45) dX12_mend_40 rfl ?_
        refine h_cS3 dX12_mend_45 k5_172 oSX12_in rfl ?_
        refine c_X12_in (fun b2 => ?_) (fun b2 => ?_)
        · refine h_ifne (tgt := 54) dX12_mend_48 rfl (fun _ => ?_) (fun c => absurd c (by decide))
          refine h_aload_n dX12_mend_54 rfl ?_
          refine h_getR dX12_mend_55 f_X12_13_10 rfl rfl ?_
          refine h_iconst dX12_mend_58 ci_4 ?_
          refine h_iload_n dX12_mend_59 rfl ?_
          refine h_imulN dX12_mend_60 ?_
          refine h_iconst dX12_mend_61 ci_2 ?_
          refine h_iaddN dX12_mend_62 ?_
          refine h_iload_n dX12_mend_63 rfl ?_
          refine h_iaddN dX12_mend_64 ?_
          refine h_ialdN (j := 4 * k + 2) dX12_mend_65 rfl rfl (by omega) rfl (hlg k (by omega)).2.2.1 ?_
          refine h_istore dX12_mend_66 (Nat.le_of_ble_eq_true rfl) ?_
          refine h_aload_n dX12_mend_68 rfl ?_
          refine h_getR dX12_mend_69 f_X12_13_10 rfl rfl ?_
          refine h_iconst dX12_mend_72 ci_4 ?_
          refine h_iload_n dX12_mend_73 rfl ?_
          refine h_imulN dX12_mend_74 ?_
          refine h_iconst dX12_mend_75 ci_2 ?_
          refine h_iaddN dX12_mend_76 ?_
          refine h_iload_n dX12_mend_77 rfl ?_
          refine h_iaddN dX12_mend_78 ?_
          refine h_iload_n dX12_mend_79 rfl ?_
          refine h_iastN (j := 4 * k + 2) dX12_mend_80 rfl rfl (by omega) rfl ?_
          refine h_iload dX12_mend_81 rfl ?_
          refine h_ireturn dX12_mend_83 rfl ?_
          exact hR k hk rfl rfl (r99 b2)
        · refine h_ifne (tgt := 54) dX12_mend_48 rfl (fun c => absurd (by decide) c) (fun _ => ?_)
          refine h_ldc dX12_mend_51 k5_187 ?_
          refine h_ireturn dX12_mend_53 rfl ?_
          exact hB (fun z => z.2.elim (fun q => b2 q.2) (fun q => absurd q.1 (by decide)))
      · exact absurd (by decide) b3
    · refine h_ifeq (tgt := 51) dX12_mend_11 rfl (fun _ => ?_) (fun c => absurd (by decide) c)
      refine h_ldc dX12_mend_51 k5_187 ?_
      refine h_ireturn dX12_mend_53 rfl ?_
      exact hB (fun z => b1 ((isIx_iff (by omega)).mpr z.1))
  by_cases e_1 : wt = nI 1
  · subst e_1
    show HV l mX12_mend (dp + 1) 0 0 0 [some (.ref 82), some (.int x), some (.int (nI 1)), some (.int n), none] [] hSH I J (hRR lt tx) Q
    refine h_iload_n dX12_mend_0 rfl ?_
    refine h_iconst dX12_mend_1 ci_0 ?_
    refine h_aload_n dX12_mend_2 rfl ?_
    refine h_getI dX12_mend_3 f_X12_120_10 rfl hnl ?_
    refine h_iconst dX12_mend_6 ci_1 ?_
    refine h_isub dX12_mend_7 ?_
    refine h_cS3 dX12_mend_8 k5_172 oSX12_in rfl ?_
    refine c_X12_in (fun b1 => ?_) (fun b1 => ?_)
    · obtain ⟨k, hk, rfl⟩ := (isIx_iff (by omega)).mp b1
      refine h_ifeq (tgt := 51) dX12_mend_11 rfl (fun c => absurd c (by decide)) (fun _ => ?_)
      refine h_iload_n dX12_mend_14 rfl ?_
      refine h_iconst dX12_mend_15 ci_0 ?_
      refine h_iconst dX12_mend_16 ci_1 ?_
      refine h_cS3 dX12_mend_17 k5_172 oSX12_in rfl ?_
      refine c_X12_in (fun b3 => ?_) (fun b3 => ?_)
      · refine h_ifeq (tgt := 51) dX12_mend_20 rfl (fun c => absurd c (by decide)) (fun _ => ?_)
        refine h_iload_n dX12_mend_23 rfl ?_
        refine h_iload_n dX12_mend_24 rfl ?_
        refine h_ifne (tgt := 33) dX12_mend_25 rfl (fun _ => ?_) (fun c => absurd c (by decide))
        refine h_iconst dX12_mend_33 ci_1 ?_
        refine h_iload_n dX12_mend_34 rfl ?_
        refine h_ifne (tgt := 43) dX12_mend_35 rfl (fun _ => ?_) (fun c => absurd c (by decide))
        refine h_bipush dX12_mend_43 cb_9 ?_
        refine h_cS3 dX12_mend_45 k5_172 oSX12_in rfl ?_
        refine c_X12_in (fun b2 => ?_) (fun b2 => ?_)
        · obtain ⟨w, rfl, hw1, hw9⟩ := rng_ex (by omega) (by omega) b2.1 b2.2
          refine h_ifne (tgt := 54) dX12_mend_48 rfl (fun _ => ?_) (fun c => absurd c (by decide))
          refine h_aload_n dX12_mend_54 rfl ?_
          refine h_getR dX12_mend_55 f_X12_13_10 rfl rfl ?_
          refine h_iconst dX12_mend_58 ci_4 ?_
          refine h_iload_n dX12_mend_59 rfl ?_
          refine h_imulN dX12_mend_60 ?_
          refine h_iconst dX12_mend_61 ci_2 ?_
          refine h_iaddN dX12_mend_62 ?_
          refine h_iload_n dX12_mend_63 rfl ?_
          refine h_iaddN dX12_mend_64 ?_
          refine h_ialdN (j := 4 * k + 3) dX12_mend_65 rfl rfl (by omega) rfl (hlg k (by omega)).2.2.2 ?_
          refine h_istore dX12_mend_66 (Nat.le_of_ble_eq_true rfl) ?_
          refine h_aload_n dX12_mend_68 rfl ?_
          refine h_getR dX12_mend_69 f_X12_13_10 rfl rfl ?_
          refine h_iconst dX12_mend_72 ci_4 ?_
          refine h_iload_n dX12_mend_73 rfl ?_
          refine h_imulN dX12_mend_74 ?_
          refine h_iconst dX12_mend_75 ci_2 ?_
          refine h_iaddN dX12_mend_76 ?_
          refine h_iload_n dX12_mend_77 rfl ?_
          refine h_iaddN dX12_mend_78 ?_
          refine h_iload_n dX12_mend_79 rfl ?_
          refine h_iastN (j := 4 * k + 3) dX12_mend_80 rfl rfl (by omega) rfl ?_
          refine h_iload dX12_mend_81 rfl ?_
          refine h_ireturn dX12_mend_83 rfl ?_
          exact hS k w hk rfl rfl rfl hw1 hw9
        · refine h_ifne (tgt := 54) dX12_mend_48 rfl (fun c => absurd (by decide) c) (fun _ => ?_)
          refine h_ldc dX12_mend_51 k5_187 ?_
          refine h_ireturn dX12_mend_53 rfl ?_
          exact hB (fun z => z.2.elim (fun q => absurd q.1 (by decide)) (fun q => b2 q.2))
      · exact absurd (by decide) b3
    · refine h_ifeq (tgt := 51) dX12_mend_11 rfl (fun _ => ?_) (fun c => absurd (by decide) c)
      refine h_ldc dX12_mend_51 k5_187 ?_
      refine h_ireturn dX12_mend_53 rfl ?_
      exact hB (fun z => b1 ((isIx_iff (by omega)).mpr z.1))
  show HV l mX12_mend (dp + 1) 0 0 0 [some (.ref 82), some (.int x), some (.int wt), some (.int n), none] [] hSH I J (hRR lt tx) Q
  refine h_iload_n dX12_mend_0 rfl ?_
  refine h_iconst dX12_mend_1 ci_0 ?_
  refine h_aload_n dX12_mend_2 rfl ?_
  refine h_getI dX12_mend_3 f_X12_120_10 rfl hnl ?_
  refine h_iconst dX12_mend_6 ci_1 ?_
  refine h_isub dX12_mend_7 ?_
  refine h_cS3 dX12_mend_8 k5_172 oSX12_in rfl ?_
  refine c_X12_in (fun b1 => ?_) (fun b1 => ?_)
  · obtain ⟨k, hk, rfl⟩ := (isIx_iff (by omega)).mp b1
    refine h_ifeq (tgt := 51) dX12_mend_11 rfl (fun c => absurd c (by decide)) (fun _ => ?_)
    refine h_iload_n dX12_mend_14 rfl ?_
    refine h_iconst dX12_mend_15 ci_0 ?_
    refine h_iconst dX12_mend_16 ci_1 ?_
    refine h_cS3 dX12_mend_17 k5_172 oSX12_in rfl ?_
    refine c_X12_in (fun b3 => ?_) (fun b3 => ?_)
    · exfalso
      obtain ⟨wn, rfl, hw1, hw9⟩ := rng_ex (by omega) (by omega) b3.1 b3.2
      rcases (show wn = 0 ∨ wn = 1 by omega) with rfl | rfl
      · exact e_0 rfl
      · exact e_1 rfl
    · refine h_ifeq (tgt := 51) dX12_mend_20 rfl (fun _ => ?_) (fun c => absurd (by decide) c)
      refine h_ldc dX12_mend_51 k5_187 ?_
      refine h_ireturn dX12_mend_53 rfl ?_
      exact hB (fun z => z.2.elim (fun q => e_0 q.1) (fun q => e_1 q.1))
  · refine h_ifeq (tgt := 51) dX12_mend_11 rfl (fun _ => ?_) (fun c => absurd (by decide) c)
    refine h_ldc dX12_mend_51 k5_187 ?_
    refine h_ireturn dX12_mend_53 rfl ?_
    exact hB (fun z => b1 ((isIx_iff (by omega)).mpr z.1))
noncomputable def soF (ns nl np ml : Nat) (pl fa fb sl pp pm : Nat → Nat) (rs : Nat → Int32) (x w : Int32) : Int32 := cif (isIx x ns ∧ nI 0 ≤ w ∧ w ≤ nI 4) (cif (w = nI 3) (nI (pl x.toNatClampNeg)) (cif (w = nI 4) (leanF (pl x.toNatClampNeg) np pp pm ml) (cif (dist fa fb sl nl x.toNatClampNeg < 1000000) (cif (w = nI 0) (lvl fa fb sl rs nl x.toNatClampNeg) (cif (w = nI 1) (nI (dist fa fb sl nl x.toNatClampNeg)) (lsI fa fb sl (dist fa fb sl nl) nl x.toNatClampNeg))) (-10000003)))) (-10000001)
theorem c_stationOf {l : Launch} {dp : Nat} {ns nl np ml nk nw : Nat} {pl fa fb sl pp pm ki fr tg wh bw : Nat → Nat} {rs sn : Nat → Int32} {fl : Nat → Bool} {qw : Nat → Nat → Nat → Nat → Bool} {I : hI} {J : hJ} {lt tx : Option Nat} {x w : Int32} {Q : hQ} (hG : cG I ns nl np ml nk nw pl fa fb sl pp pm ki fr tg wh bw rs sn fl qw) (hQ : Q (some (.int (soF ns nl np ml pl fa fb sl pp pm rs x w))) hSH I J (hRR lt tx)) : HC l mX11_stationOf (dp + 3) 0 0 [.ref 0, .int x, .int w] hSH I J (hRR lt tx) Q := by
  refine HC.of (by decide +kernel) rfl (Nat.le_of_ble_eq_true rfl) ?_
  obtain ⟨⟨hN, hdo, hla, hlv⟩, hw, ⟨hnp, hml, hnk, hpt, hsi, hbt⟩, ⟨hn8, hm2, hn24, hpW, hsW⟩, hL⟩ := id hG
  obtain ⟨hns, hnl, hpl, hlg⟩ := id hN
  obtain ⟨hn6, hl12, hW, hp99, hr99⟩ := id hw
  by_cases e_0 : w = nI 0
  · subst e_0
    show HV l mX11_stationOf (dp + 3) 0 0 0 [some (.ref 0), some (.int x), some (.int (nI 0))] [] hSH I J (hRR lt tx) Q
    refine h_aload_n dX11_stationOf_0 rfl ?_
    refine h_iload_n dX11_stationOf_1 rfl ?_
    refine h_cV1 dX11_stationOf_2 k2_188 oVX11_isStation rfl rfl ?_
    refine c_isStation (n := ns) hns (by omega) (fun b1 => ?_) (fun b1 => ?_)
    · obtain ⟨s, hs, rfl⟩ := b1
      refine h_ifeq (tgt := 17) dX11_stationOf_5 rfl (fun c => absurd c (by decide)) (fun _ => ?_)
      refine h_iload_n dX11_stationOf_8 rfl ?_
      refine h_iconst dX11_stationOf_9 ci_0 ?_
      refine h_iconst dX11_stationOf_10 ci_4 ?_
      refine h_cS3 dX11_stationOf_11 k2_154 oSX11_within rfl ?_
      refine c_X11_within (fun b2 => ?_) (fun b2 => ?_)
      · refine h_ifne (tgt := 20) dX11_stationOf_14 rfl (fun _ => ?_) (fun c => absurd c (by decide))
        refine h_iload_n dX11_stationOf_20 rfl ?_
        refine h_iconst dX11_stationOf_21 ci_3 ?_
        refine h_icmpne (tgt := 35) dX11_stationOf_22 rfl (fun _ => ?_) (fun c => absurd c (by decide))
        refine h_iload_n dX11_stationOf_35 rfl ?_
        refine h_iconst dX11_stationOf_36 ci_4 ?_
        refine h_icmpne (tgt := 49) dX11_stationOf_37 rfl (fun _ => ?_) (fun c => absurd c (by decide))
        refine h_aload_n dX11_stationOf_49 rfl ?_
        refine h_getR dX11_stationOf_50 f_X11_20_9 rfl rfl ?_
        refine h_iload_n dX11_stationOf_53 rfl ?_
        refine h_cV1 dX11_stationOf_54 k2_223 oVX5_hasLevel rfl rfl ?_
        refine c_hasLevelN (f := dist fa fb sl nl) hns hn6 hdo hs (fun b3 => ?_) (fun b3 => ?_)
        · refine h_ifne (tgt := 63) dX11_stationOf_57 rfl (fun _ => ?_) (fun c => absurd c (by decide))
          refine h_iload_n dX11_stationOf_63 rfl ?_
          refine h_ifne (tgt := 77) dX11_stationOf_64 rfl (fun c => absurd (by decide) c) (fun _ => ?_)
          refine h_aload_n dX11_stationOf_67 rfl ?_
          refine h_getR dX11_stationOf_68 f_X11_20_9 rfl rfl ?_
          refine h_getR dX11_stationOf_71 f_X11_151_5 rfl rfl ?_
          refine h_iload_n dX11_stationOf_74 rfl ?_
          refine h_ialdN (j := s) dX11_stationOf_75 rfl rfl (by omega) rfl (hlv _ (by omega)) ?_
          refine h_ireturn dX11_stationOf_76 rfl ?_
          unfold soF at hQ
          rw [cif_t ⟨⟨s, hs, rfl⟩, by decide, by decide⟩, cif_f (by decide), cif_f (by decide), cif_t (by rw [nI_clamp (show s < 2 ^ 31 by omega)]; exact b3), cif_t rfl, nI_clamp (show s < 2 ^ 31 by omega)] at hQ
          exact hQ
        · refine h_ifne (tgt := 63) dX11_stationOf_57 rfl (fun c => absurd (by decide) c) (fun _ => ?_)
          refine h_ldc dX11_stationOf_60 k2_227 ?_
          refine h_ireturn dX11_stationOf_62 rfl ?_
          unfold soF at hQ
          rw [cif_t ⟨⟨s, hs, rfl⟩, by decide, by decide⟩, cif_f (by decide), cif_f (by decide), cif_f (by rw [nI_clamp (show s < 2 ^ 31 by omega)]; exact b3)] at hQ
          exact hQ
      · exact absurd (by decide) b2
    · refine h_ifeq (tgt := 17) dX11_stationOf_5 rfl (fun _ => ?_) (fun c => absurd (by decide) c)
      refine h_ldc dX11_stationOf_17 k2_206 ?_
      refine h_ireturn dX11_stationOf_19 rfl ?_
      unfold soF at hQ
      rw [cif_f (fun z => b1 z.1)] at hQ
      exact hQ
  by_cases e_1 : w = nI 1
  · subst e_1
    show HV l mX11_stationOf (dp + 3) 0 0 0 [some (.ref 0), some (.int x), some (.int (nI 1))] [] hSH I J (hRR lt tx) Q
    refine h_aload_n dX11_stationOf_0 rfl ?_
    refine h_iload_n dX11_stationOf_1 rfl ?_
    refine h_cV1 dX11_stationOf_2 k2_188 oVX11_isStation rfl rfl ?_
    refine c_isStation (n := ns) hns (by omega) (fun b1 => ?_) (fun b1 => ?_)
    · obtain ⟨s, hs, rfl⟩ := b1
      refine h_ifeq (tgt := 17) dX11_stationOf_5 rfl (fun c => absurd c (by decide)) (fun _ => ?_)
      refine h_iload_n dX11_stationOf_8 rfl ?_
      refine h_iconst dX11_stationOf_9 ci_0 ?_
      refine h_iconst dX11_stationOf_10 ci_4 ?_
      refine h_cS3 dX11_stationOf_11 k2_154 oSX11_within rfl ?_
      refine c_X11_within (fun b2 => ?_) (fun b2 => ?_)
      · refine h_ifne (tgt := 20) dX11_stationOf_14 rfl (fun _ => ?_) (fun c => absurd c (by decide))
        refine h_iload_n dX11_stationOf_20 rfl ?_
        refine h_iconst dX11_stationOf_21 ci_3 ?_
        refine h_icmpne (tgt := 35) dX11_stationOf_22 rfl (fun _ => ?_) (fun c => absurd c (by decide))
        refine h_iload_n dX11_stationOf_35 rfl ?_
        refine h_iconst dX11_stationOf_36 ci_4 ?_
        refine h_icmpne (tgt := 49) dX11_stationOf_37 rfl (fun _ => ?_) (fun c => absurd c (by decide))
        refine h_aload_n dX11_stationOf_49 rfl ?_
        refine h_getR dX11_stationOf_50 f_X11_20_9 rfl rfl ?_
        refine h_iload_n dX11_stationOf_53 rfl ?_
        refine h_cV1 dX11_stationOf_54 k2_223 oVX5_hasLevel rfl rfl ?_
        refine c_hasLevelN (f := dist fa fb sl nl) hns hn6 hdo hs (fun b3 => ?_) (fun b3 => ?_)
        · refine h_ifne (tgt := 63) dX11_stationOf_57 rfl (fun _ => ?_) (fun c => absurd c (by decide))
          refine h_iload_n dX11_stationOf_63 rfl ?_
          refine h_ifne (tgt := 77) dX11_stationOf_64 rfl (fun _ => ?_) (fun c => absurd c (by decide))
          refine h_iload_n dX11_stationOf_77 rfl ?_
          refine h_iconst dX11_stationOf_78 ci_1 ?_
          refine h_icmpne (tgt := 94) dX11_stationOf_79 rfl (fun c => absurd (by decide) c) (fun _ => ?_)
          refine h_aload_n dX11_stationOf_82 rfl ?_
          refine h_getR dX11_stationOf_83 f_X11_20_9 rfl rfl ?_
          refine h_getR dX11_stationOf_86 f_X11_154_5 rfl rfl ?_
          refine h_iload_n dX11_stationOf_89 rfl ?_
          refine h_ialdN (j := s) dX11_stationOf_90 rfl rfl (by omega) rfl ((hdo s hs).trans (enc_lt b3)) ?_
          refine h_goto (tgt := 103) dX11_stationOf_91 rfl ?_
          refine h_ireturn dX11_stationOf_103 rfl ?_
          unfold soF at hQ
          rw [cif_t ⟨⟨s, hs, rfl⟩, by decide, by decide⟩, cif_f (by decide), cif_f (by decide), cif_t (by rw [nI_clamp (show s < 2 ^ 31 by omega)]; exact b3), cif_f (by decide), cif_t rfl, nI_clamp (show s < 2 ^ 31 by omega)] at hQ
          exact hQ
        · refine h_ifne (tgt := 63) dX11_stationOf_57 rfl (fun c => absurd (by decide) c) (fun _ => ?_)
          refine h_ldc dX11_stationOf_60 k2_227 ?_
          refine h_ireturn dX11_stationOf_62 rfl ?_
          unfold soF at hQ
          rw [cif_t ⟨⟨s, hs, rfl⟩, by decide, by decide⟩, cif_f (by decide), cif_f (by decide), cif_f (by rw [nI_clamp (show s < 2 ^ 31 by omega)]; exact b3)] at hQ
          exact hQ
      · exact absurd (by decide) b2
    · refine h_ifeq (tgt := 17) dX11_stationOf_5 rfl (fun _ => ?_) (fun c => absurd (by decide) c)
      refine h_ldc dX11_stationOf_17 k2_206 ?_
      refine h_ireturn dX11_stationOf_19 rfl ?_
      unfold soF at hQ
      rw [cif_f (fun z => b1 z.1)] at hQ
      exact hQ
  by_cases e_2 : w = nI 2
  · subst e_2
    show HV l mX11_stationOf (dp + 3) 0 0 0 [some (.ref 0), some (.int x), some (.int (nI 2))] [] hSH I J (hRR lt tx) Q
    refine h_aload_n dX11_stationOf_0 rfl ?_
    refine h_iload_n dX11_stationOf_1 rfl ?_
    refine h_cV1 dX11_stationOf_2 k2_188 oVX11_isStation rfl rfl ?_
    refine c_isStation (n := ns) hns (by omega) (fun b1 => ?_) (fun b1 => ?_)
    · obtain ⟨s, hs, rfl⟩ := b1
      refine h_ifeq (tgt := 17) dX11_stationOf_5 rfl (fun c => absurd c (by decide)) (fun _ => ?_)
      refine h_iload_n dX11_stationOf_8 rfl ?_
      refine h_iconst dX11_stationOf_9 ci_0 ?_
      refine h_iconst dX11_stationOf_10 ci_4 ?_
      refine h_cS3 dX11_stationOf_11 k2_154 oSX11_within rfl ?_
      refine c_X11_within (fun b2 => ?_) (fun b2 => ?_)
      · refine h_ifne (tgt := 20) dX11_stationOf_14 rfl (fun _ => ?_) (fun c => absurd c (by decide))
        refine h_iload_n dX11_stationOf_20 rfl ?_
        refine h_iconst dX11_stationOf_21 ci_3 ?_
        refine h_icmpne (tgt := 35) dX11_stationOf_22 rfl (fun _ => ?_) (fun c => absurd c (by decide))
        refine h_iload_n dX11_stationOf_35 rfl ?_
        refine h_iconst dX11_stationOf_36 ci_4 ?_
        refine h_icmpne (tgt := 49) dX11_stationOf_37 rfl (fun _ => ?_) (fun c => absurd c (by decide))
        refine h_aload_n dX11_stationOf_49 rfl ?_
        refine h_getR dX11_stationOf_50 f_X11_20_9 rfl rfl ?_
        refine h_iload_n dX11_stationOf_53 rfl ?_
        refine h_cV1 dX11_stationOf_54 k2_223 oVX5_hasLevel rfl rfl ?_
        refine c_hasLevelN (f := dist fa fb sl nl) hns hn6 hdo hs (fun b3 => ?_) (fun b3 => ?_)
        · refine h_ifne (tgt := 63) dX11_stationOf_57 rfl (fun _ => ?_) (fun c => absurd c (by decide))
          refine h_iload_n dX11_stationOf_63 rfl ?_
          refine h_ifne (tgt := 77) dX11_stationOf_64 rfl (fun _ => ?_) (fun c => absurd c (by decide))
          refine h_iload_n dX11_stationOf_77 rfl ?_
          refine h_iconst dX11_stationOf_78 ci_1 ?_
          refine h_icmpne (tgt := 94) dX11_stationOf_79 rfl (fun _ => ?_) (fun c => absurd c (by decide))
          refine h_aload_n dX11_stationOf_94 rfl ?_
          refine h_getR dX11_stationOf_95 f_X11_20_9 rfl rfl ?_
          refine h_getR dX11_stationOf_98 f_X11_157_5 rfl rfl ?_
          refine h_iload_n dX11_stationOf_101 rfl ?_
          refine h_ialdN (j := s) dX11_stationOf_102 rfl rfl (by omega) rfl (hla _ (by omega)) ?_
          refine h_ireturn dX11_stationOf_103 rfl ?_
          unfold soF at hQ
          rw [cif_t ⟨⟨s, hs, rfl⟩, by decide, by decide⟩, cif_f (by decide), cif_f (by decide), cif_t (by rw [nI_clamp (show s < 2 ^ 31 by omega)]; exact b3), cif_f (by decide), cif_f (by decide), nI_clamp (show s < 2 ^ 31 by omega)] at hQ
          exact hQ
        · refine h_ifne (tgt := 63) dX11_stationOf_57 rfl (fun c => absurd (by decide) c) (fun _ => ?_)
          refine h_ldc dX11_stationOf_60 k2_227 ?_
          refine h_ireturn dX11_stationOf_62 rfl ?_
          unfold soF at hQ
          rw [cif_t ⟨⟨s, hs, rfl⟩, by decide, by decide⟩, cif_f (by decide), cif_f (by decide), cif_f (by rw [nI_clamp (show s < 2 ^ 31 by omega)]; exact b3)] at hQ
          exact hQ
      · exact absurd (by decide) b2
    · refine h_ifeq (tgt := 17) dX11_stationOf_5 rfl (fun _ => ?_) (fun c => absurd (by decide) c)
      refine h_ldc dX11_stationOf_17 k2_206 ?_
      refine h_ireturn dX11_stationOf_19 rfl ?_
      unfold soF at hQ
      rw [cif_f (fun z => b1 z.1)] at hQ
      exact hQ
  by_cases e_3 : w = nI 3
  · subst e_3
    show HV l mX11_stationOf (dp + 3) 0 0 0 [some (.ref 0), some (.int x), some (.int (nI 3))] [] hSH I J (hRR lt tx) Q
    refine h_aload_n dX11_stationOf_0 rfl ?_
    refine h_iload_n dX11_stationOf_1 rfl ?_
    refine h_cV1 dX11_stationOf_2 k2_188 oVX11_isStation rfl rfl ?_
    refine c_isStation (n := ns) hns (by omega) (fun b1 => ?_) (fun b1 => ?_)
    · obtain ⟨s, hs, rfl⟩ := b1
      refine h_ifeq (tgt := 17) dX11_stationOf_5 rfl (fun c => absurd c (by decide)) (fun _ => ?_)
      refine h_iload_n dX11_stationOf_8 rfl ?_
      refine h_iconst dX11_stationOf_9 ci_0 ?_
      refine h_iconst dX11_stationOf_10 ci_4 ?_
      refine h_cS3 dX11_stationOf_11 k2_154 oSX11_within rfl ?_
      refine c_X11_within (fun b2 => ?_) (fun b2 => ?_)
      · refine h_ifne (tgt := 20) dX11_stationOf_14 rfl (fun _ => ?_) (fun c => absurd c (by decide))
        refine h_iload_n dX11_stationOf_20 rfl ?_
        refine h_iconst dX11_stationOf_21 ci_3 ?_
        refine h_icmpne (tgt := 35) dX11_stationOf_22 rfl (fun c => absurd (by decide) c) (fun _ => ?_)
        refine h_aload_n dX11_stationOf_25 rfl ?_
        refine h_getR dX11_stationOf_26 f_X11_20_9 rfl rfl ?_
        refine h_getR dX11_stationOf_29 f_X11_141_5 rfl rfl ?_
        refine h_iload_n dX11_stationOf_32 rfl ?_
        refine h_ialdN (j := s) dX11_stationOf_33 rfl rfl (by omega) rfl (hpl _ (by omega)) ?_
        refine h_ireturn dX11_stationOf_34 rfl ?_
        unfold soF at hQ
        rw [cif_t ⟨⟨s, hs, rfl⟩, by decide, by decide⟩, cif_t rfl, nI_clamp (show s < 2 ^ 31 by omega)] at hQ
        exact hQ
      · exact absurd (by decide) b2
    · refine h_ifeq (tgt := 17) dX11_stationOf_5 rfl (fun _ => ?_) (fun c => absurd (by decide) c)
      refine h_ldc dX11_stationOf_17 k2_206 ?_
      refine h_ireturn dX11_stationOf_19 rfl ?_
      unfold soF at hQ
      rw [cif_f (fun z => b1 z.1)] at hQ
      exact hQ
  by_cases e_4 : w = nI 4
  · subst e_4
    show HV l mX11_stationOf (dp + 3) 0 0 0 [some (.ref 0), some (.int x), some (.int (nI 4))] [] hSH I J (hRR lt tx) Q
    refine h_aload_n dX11_stationOf_0 rfl ?_
    refine h_iload_n dX11_stationOf_1 rfl ?_
    refine h_cV1 dX11_stationOf_2 k2_188 oVX11_isStation rfl rfl ?_
    refine c_isStation (n := ns) hns (by omega) (fun b1 => ?_) (fun b1 => ?_)
    · obtain ⟨s, hs, rfl⟩ := b1
      refine h_ifeq (tgt := 17) dX11_stationOf_5 rfl (fun c => absurd c (by decide)) (fun _ => ?_)
      refine h_iload_n dX11_stationOf_8 rfl ?_
      refine h_iconst dX11_stationOf_9 ci_0 ?_
      refine h_iconst dX11_stationOf_10 ci_4 ?_
      refine h_cS3 dX11_stationOf_11 k2_154 oSX11_within rfl ?_
      refine c_X11_within (fun b2 => ?_) (fun b2 => ?_)
      · refine h_ifne (tgt := 20) dX11_stationOf_14 rfl (fun _ => ?_) (fun c => absurd c (by decide))
        refine h_iload_n dX11_stationOf_20 rfl ?_
        refine h_iconst dX11_stationOf_21 ci_3 ?_
        refine h_icmpne (tgt := 35) dX11_stationOf_22 rfl (fun _ => ?_) (fun c => absurd c (by decide))
        refine h_iload_n dX11_stationOf_35 rfl ?_
        refine h_iconst dX11_stationOf_36 ci_4 ?_
        refine h_icmpne (tgt := 49) dX11_stationOf_37 rfl (fun c => absurd (by decide) c) (fun _ => ?_)
        refine h_aload_n dX11_stationOf_40 rfl ?_
        refine h_getR dX11_stationOf_41 f_X11_10_9 rfl rfl ?_
        refine h_iload_n dX11_stationOf_44 rfl ?_
        refine h_cV1 dX11_stationOf_45 k2_212 oVX10_lean rfl rfl ?_
        refine c_lean hG hs ?_
        refine h_ireturn dX11_stationOf_48 rfl ?_
        unfold soF at hQ
        rw [cif_t ⟨⟨s, hs, rfl⟩, by decide, by decide⟩, cif_f (by decide), cif_t rfl, nI_clamp (show s < 2 ^ 31 by omega)] at hQ
        exact hQ
      · exact absurd (by decide) b2
    · refine h_ifeq (tgt := 17) dX11_stationOf_5 rfl (fun _ => ?_) (fun c => absurd (by decide) c)
      refine h_ldc dX11_stationOf_17 k2_206 ?_
      refine h_ireturn dX11_stationOf_19 rfl ?_
      unfold soF at hQ
      rw [cif_f (fun z => b1 z.1)] at hQ
      exact hQ
  show HV l mX11_stationOf (dp + 3) 0 0 0 [some (.ref 0), some (.int x), some (.int w)] [] hSH I J (hRR lt tx) Q
  refine h_aload_n dX11_stationOf_0 rfl ?_
  refine h_iload_n dX11_stationOf_1 rfl ?_
  refine h_cV1 dX11_stationOf_2 k2_188 oVX11_isStation rfl rfl ?_
  refine c_isStation (n := ns) hns (by omega) (fun b1 => ?_) (fun b1 => ?_)
  · obtain ⟨s, hs, rfl⟩ := b1
    refine h_ifeq (tgt := 17) dX11_stationOf_5 rfl (fun c => absurd c (by decide)) (fun _ => ?_)
    refine h_iload_n dX11_stationOf_8 rfl ?_
    refine h_iconst dX11_stationOf_9 ci_0 ?_
    refine h_iconst dX11_stationOf_10 ci_4 ?_
    refine h_cS3 dX11_stationOf_11 k2_154 oSX11_within rfl ?_
    refine c_X11_within (fun b2 => ?_) (fun b2 => ?_)
    · exfalso
      obtain ⟨wn, rfl, hw1, hw9⟩ := rng_ex (by omega) (by omega) b2.1 b2.2
      rcases (show wn = 0 ∨ wn = 1 ∨ wn = 2 ∨ wn = 3 ∨ wn = 4 by omega) with rfl | rfl | rfl | rfl | rfl
      · exact e_0 rfl
      · exact e_1 rfl
      · exact e_2 rfl
      · exact e_3 rfl
      · exact e_4 rfl
    · refine h_ifne (tgt := 20) dX11_stationOf_14 rfl (fun c => absurd (by decide) c) (fun _ => ?_)
      refine h_ldc dX11_stationOf_17 k2_206 ?_
      refine h_ireturn dX11_stationOf_19 rfl ?_
      unfold soF at hQ
      rw [cif_f (fun z => b2 z.2)] at hQ
      exact hQ
  · refine h_ifeq (tgt := 17) dX11_stationOf_5 rfl (fun _ => ?_) (fun c => absurd (by decide) c)
    refine h_ldc dX11_stationOf_17 k2_206 ?_
    refine h_ireturn dX11_stationOf_19 rfl ?_
    unfold soF at hQ
    rw [cif_f (fun z => b1 z.1)] at hQ
    exact hQ
def RO (I I' : hI) : Prop := ∃ a b c lo hi f1 f2, I' = rM I a b c lo hi f1 f2
theorem RO_id (I : hI) : RO I I := ⟨_, _, _, _, _, _, _, (rM_id I).symm⟩
theorem RO_l (I : hI) (a b c : Nat → Int32) : RO I (upA (upA (upA I 90 a) 92 b) 91 c) := by
  refine ⟨a, b, c, I 82 16, I 82 17, I 101, I 102, ?_⟩
  have := rM_l I (I 90) (I 92) (I 91) a c b (I 82 16) (I 82 17) (I 101) (I 102)
  rw [rM_id] at this
  exact this
theorem r_stationOf {l : Launch} {dp : Nat} {ns nl np ml nk nw : Nat} {pl fa fb sl pp pm ki fr tg wh bw : Nat → Nat} {rs sn : Nat → Int32} {fl : Nat → Bool} {qw : Nat → Nat → Nat → Nat → Bool} {I : hI} {J : hJ} {lt tx : Option Nat} {x w : Int32} {Q : hQ} (hG : rG I ns nl np ml nk nw pl fa fb sl pp pm ki fr tg wh bw rs sn fl qw) (hQ : ∀ I', RO I I' → Q (some (.int (soF ns nl np ml pl fa fb sl pp pm rs x w))) hSH I' J (hRR lt tx)) : HC l mX12_stationOf (dp + 3) 0 0 [.ref 82, .int x, .int w] hSH I J (hRR lt tx) Q := by
  refine HC.of (by decide +kernel) rfl (Nat.le_of_ble_eq_true rfl) ?_
  obtain ⟨hN, hw, ⟨hnp, hml, hnk, hpt, hsi⟩, ⟨hn8, hm2, hn24, hpW, hsW⟩, hL⟩ := id hG
  obtain ⟨hns, hnl, hpl, hlg⟩ := id hN
  obtain ⟨hn6, hl12, hW, hp99, hr99⟩ := id hw
  by_cases e_0 : w = nI 0
  · subst e_0
    show HV l mX12_stationOf (dp + 3) 0 0 0 [some (.ref 82), some (.int x), some (.int (nI 0))] [] hSH I J (hRR lt tx) Q
    refine h_aload_n dX12_stationOf_0 rfl ?_
    refine h_iload_n dX12_stationOf_1 rfl ?_
    refine h_cV1 dX12_stationOf_2 k5_179 oVX12_isStation rfl rfl ?_
    refine r_isStation (n := ns) hns (by omega) (fun b1 => ?_) (fun b1 => ?_)
    · obtain ⟨s, hs, rfl⟩ := b1
      refine h_ifeq (tgt := 17) dX12_stationOf_5 rfl (fun c => absurd c (by decide)) (fun _ => ?_)
      refine h_iload_n dX12_stationOf_8 rfl ?_
      refine h_iconst dX12_stationOf_9 ci_0 ?_
      refine h_iconst dX12_stationOf_10 ci_4 ?_
      refine h_cS3 dX12_stationOf_11 k5_172 oSX12_in rfl ?_
      refine c_X12_in (fun b2 => ?_) (fun b2 => ?_)
      · refine h_ifne (tgt := 20) dX12_stationOf_14 rfl (fun _ => ?_) (fun c => absurd c (by decide))
        refine h_iload_n dX12_stationOf_20 rfl ?_
        refine h_iconst dX12_stationOf_21 ci_2 ?_
        refine h_icmple (tgt := 45) dX12_stationOf_22 rfl (fun _ => ?_) (fun c => absurd (by decide) c)
        refine h_aload_n dX12_stationOf_45 rfl ?_
        refine h_cV0 dX12_stationOf_46 k5_200 oVX12_findLevels rfl rfl ?_
        refine r_findLevels hN hw (fun a c b hLv => ?_)
        refine h_aload_n dX12_stationOf_49 rfl ?_
        refine h_iload_n dX12_stationOf_50 rfl ?_
        refine h_cV1 dX12_stationOf_51 k5_213 oVX12_hasLevel rfl rfl ?_
        refine r_hasLevel (f := dist fa fb sl nl) (by omega) hLv.1 (bf_le 6) (fun b3 => ?_) (fun b3 => ?_)
        · refine h_ifne (tgt := 60) dX12_stationOf_54 rfl (fun _ => ?_) (fun c => absurd c (by decide))
          refine h_iload_n dX12_stationOf_60 rfl ?_
          refine h_ifne (tgt := 73) dX12_stationOf_61 rfl (fun c => absurd (by decide) c) (fun _ => ?_)
          refine h_aload_n dX12_stationOf_64 rfl ?_
          refine h_getR dX12_stationOf_65 f_X12_37_10 rfl rfl ?_
          refine h_iload_n dX12_stationOf_68 rfl ?_
          refine h_ialdN (j := s) dX12_stationOf_69 rfl rfl (by omega) rfl (hLv.2.1 _ (by omega) b3) ?_
          refine h_goto (tgt := 93) dX12_stationOf_70 rfl ?_
          refine h_ireturn dX12_stationOf_93 rfl ?_
          have hQ := hQ _ (RO_l I a b c)
          unfold soF at hQ
          rw [cif_t ⟨⟨s, hs, rfl⟩, by decide, by decide⟩, cif_f (by decide), cif_f (by decide), cif_t (by rw [nI_clamp (show s < 2 ^ 31 by omega)]; exact b3), cif_t rfl, nI_clamp (show s < 2 ^ 31 by omega)] at hQ
          exact hQ
        · refine h_ifne (tgt := 60) dX12_stationOf_54 rfl (fun c => absurd (by decide) c) (fun _ => ?_)
          refine h_ldc dX12_stationOf_57 k5_221 ?_
          refine h_ireturn dX12_stationOf_59 rfl ?_
          have hQ := hQ _ (RO_l I a b c)
          unfold soF at hQ
          rw [cif_t ⟨⟨s, hs, rfl⟩, by decide, by decide⟩, cif_f (by decide), cif_f (by decide), cif_f (by rw [nI_clamp (show s < 2 ^ 31 by omega)]; exact b3)] at hQ
          exact hQ
      · exact absurd (by decide) b2
    · refine h_ifeq (tgt := 17) dX12_stationOf_5 rfl (fun _ => ?_) (fun c => absurd (by decide) c)
      refine h_ldc dX12_stationOf_17 k5_187 ?_
      refine h_ireturn dX12_stationOf_19 rfl ?_
      have hQ := hQ _ (RO_id I)
      unfold soF at hQ
      rw [cif_f (fun z => b1 z.1)] at hQ
      exact hQ
  by_cases e_1 : w = nI 1
  · subst e_1
    show HV l mX12_stationOf (dp + 3) 0 0 0 [some (.ref 82), some (.int x), some (.int (nI 1))] [] hSH I J (hRR lt tx) Q
    refine h_aload_n dX12_stationOf_0 rfl ?_
    refine h_iload_n dX12_stationOf_1 rfl ?_
    refine h_cV1 dX12_stationOf_2 k5_179 oVX12_isStation rfl rfl ?_
    refine r_isStation (n := ns) hns (by omega) (fun b1 => ?_) (fun b1 => ?_)
    · obtain ⟨s, hs, rfl⟩ := b1
      refine h_ifeq (tgt := 17) dX12_stationOf_5 rfl (fun c => absurd c (by decide)) (fun _ => ?_)
      refine h_iload_n dX12_stationOf_8 rfl ?_
      refine h_iconst dX12_stationOf_9 ci_0 ?_
      refine h_iconst dX12_stationOf_10 ci_4 ?_
      refine h_cS3 dX12_stationOf_11 k5_172 oSX12_in rfl ?_
      refine c_X12_in (fun b2 => ?_) (fun b2 => ?_)
      · refine h_ifne (tgt := 20) dX12_stationOf_14 rfl (fun _ => ?_) (fun c => absurd c (by decide))
        refine h_iload_n dX12_stationOf_20 rfl ?_
        refine h_iconst dX12_stationOf_21 ci_2 ?_
        refine h_icmple (tgt := 45) dX12_stationOf_22 rfl (fun _ => ?_) (fun c => absurd (by decide) c)
        refine h_aload_n dX12_stationOf_45 rfl ?_
        refine h_cV0 dX12_stationOf_46 k5_200 oVX12_findLevels rfl rfl ?_
        refine r_findLevels hN hw (fun a c b hLv => ?_)
        refine h_aload_n dX12_stationOf_49 rfl ?_
        refine h_iload_n dX12_stationOf_50 rfl ?_
        refine h_cV1 dX12_stationOf_51 k5_213 oVX12_hasLevel rfl rfl ?_
        refine r_hasLevel (f := dist fa fb sl nl) (by omega) hLv.1 (bf_le 6) (fun b3 => ?_) (fun b3 => ?_)
        · refine h_ifne (tgt := 60) dX12_stationOf_54 rfl (fun _ => ?_) (fun c => absurd c (by decide))
          refine h_iload_n dX12_stationOf_60 rfl ?_
          refine h_ifne (tgt := 73) dX12_stationOf_61 rfl (fun _ => ?_) (fun c => absurd c (by decide))
          refine h_iload_n dX12_stationOf_73 rfl ?_
          refine h_iconst dX12_stationOf_74 ci_1 ?_
          refine h_icmpne (tgt := 87) dX12_stationOf_75 rfl (fun c => absurd (by decide) c) (fun _ => ?_)
          refine h_aload_n dX12_stationOf_78 rfl ?_
          refine h_getR dX12_stationOf_79 f_X12_31_10 rfl rfl ?_
          refine h_iload_n dX12_stationOf_82 rfl ?_
          refine h_ialdN (j := s) dX12_stationOf_83 rfl rfl (by omega) rfl (hLv.1 _ (by omega)) ?_
          refine h_goto (tgt := 93) dX12_stationOf_84 rfl ?_
          refine h_ireturn dX12_stationOf_93 rfl ?_
          have hQ := hQ _ (RO_l I a b c)
          unfold soF at hQ
          rw [cif_t ⟨⟨s, hs, rfl⟩, by decide, by decide⟩, cif_f (by decide), cif_f (by decide), cif_t (by rw [nI_clamp (show s < 2 ^ 31 by omega)]; exact b3), cif_f (by decide), cif_t rfl, nI_clamp (show s < 2 ^ 31 by omega)] at hQ
          exact hQ
        · refine h_ifne (tgt := 60) dX12_stationOf_54 rfl (fun c => absurd (by decide) c) (fun _ => ?_)
          refine h_ldc dX12_stationOf_57 k5_221 ?_
          refine h_ireturn dX12_stationOf_59 rfl ?_
          have hQ := hQ _ (RO_l I a b c)
          unfold soF at hQ
          rw [cif_t ⟨⟨s, hs, rfl⟩, by decide, by decide⟩, cif_f (by decide), cif_f (by decide), cif_f (by rw [nI_clamp (show s < 2 ^ 31 by omega)]; exact b3)] at hQ
          exact hQ
      · exact absurd (by decide) b2
    · refine h_ifeq (tgt := 17) dX12_stationOf_5 rfl (fun _ => ?_) (fun c => absurd (by decide) c)
      refine h_ldc dX12_stationOf_17 k5_187 ?_
      refine h_ireturn dX12_stationOf_19 rfl ?_
      have hQ := hQ _ (RO_id I)
      unfold soF at hQ
      rw [cif_f (fun z => b1 z.1)] at hQ
      exact hQ
  by_cases e_2 : w = nI 2
  · subst e_2
    show HV l mX12_stationOf (dp + 3) 0 0 0 [some (.ref 82), some (.int x), some (.int (nI 2))] [] hSH I J (hRR lt tx) Q
    refine h_aload_n dX12_stationOf_0 rfl ?_
    refine h_iload_n dX12_stationOf_1 rfl ?_
    refine h_cV1 dX12_stationOf_2 k5_179 oVX12_isStation rfl rfl ?_
    refine r_isStation (n := ns) hns (by omega) (fun b1 => ?_) (fun b1 => ?_)
    · obtain ⟨s, hs, rfl⟩ := b1
      refine h_ifeq (tgt := 17) dX12_stationOf_5 rfl (fun c => absurd c (by decide)) (fun _ => ?_)
      refine h_iload_n dX12_stationOf_8 rfl ?_
      refine h_iconst dX12_stationOf_9 ci_0 ?_
      refine h_iconst dX12_stationOf_10 ci_4 ?_
      refine h_cS3 dX12_stationOf_11 k5_172 oSX12_in rfl ?_
      refine c_X12_in (fun b2 => ?_) (fun b2 => ?_)
      · refine h_ifne (tgt := 20) dX12_stationOf_14 rfl (fun _ => ?_) (fun c => absurd c (by decide))
        refine h_iload_n dX12_stationOf_20 rfl ?_
        refine h_iconst dX12_stationOf_21 ci_2 ?_
        refine h_icmple (tgt := 45) dX12_stationOf_22 rfl (fun _ => ?_) (fun c => absurd (by decide) c)
        refine h_aload_n dX12_stationOf_45 rfl ?_
        refine h_cV0 dX12_stationOf_46 k5_200 oVX12_findLevels rfl rfl ?_
        refine r_findLevels hN hw (fun a c b hLv => ?_)
        refine h_aload_n dX12_stationOf_49 rfl ?_
        refine h_iload_n dX12_stationOf_50 rfl ?_
        refine h_cV1 dX12_stationOf_51 k5_213 oVX12_hasLevel rfl rfl ?_
        refine r_hasLevel (f := dist fa fb sl nl) (by omega) hLv.1 (bf_le 6) (fun b3 => ?_) (fun b3 => ?_)
        · refine h_ifne (tgt := 60) dX12_stationOf_54 rfl (fun _ => ?_) (fun c => absurd c (by decide))
          refine h_iload_n dX12_stationOf_60 rfl ?_
          refine h_ifne (tgt := 73) dX12_stationOf_61 rfl (fun _ => ?_) (fun c => absurd c (by decide))
          refine h_iload_n dX12_stationOf_73 rfl ?_
          refine h_iconst dX12_stationOf_74 ci_1 ?_
          refine h_icmpne (tgt := 87) dX12_stationOf_75 rfl (fun _ => ?_) (fun c => absurd c (by decide))
          refine h_aload_n dX12_stationOf_87 rfl ?_
          refine h_getR dX12_stationOf_88 f_X12_34_10 rfl rfl ?_
          refine h_iload_n dX12_stationOf_91 rfl ?_
          refine h_ialdN (j := s) dX12_stationOf_92 rfl rfl (by omega) rfl (hLv.2.2 _ (by omega)) ?_
          refine h_ireturn dX12_stationOf_93 rfl ?_
          have hQ := hQ _ (RO_l I a b c)
          unfold soF at hQ
          rw [cif_t ⟨⟨s, hs, rfl⟩, by decide, by decide⟩, cif_f (by decide), cif_f (by decide), cif_t (by rw [nI_clamp (show s < 2 ^ 31 by omega)]; exact b3), cif_f (by decide), cif_f (by decide), nI_clamp (show s < 2 ^ 31 by omega)] at hQ
          exact hQ
        · refine h_ifne (tgt := 60) dX12_stationOf_54 rfl (fun c => absurd (by decide) c) (fun _ => ?_)
          refine h_ldc dX12_stationOf_57 k5_221 ?_
          refine h_ireturn dX12_stationOf_59 rfl ?_
          have hQ := hQ _ (RO_l I a b c)
          unfold soF at hQ
          rw [cif_t ⟨⟨s, hs, rfl⟩, by decide, by decide⟩, cif_f (by decide), cif_f (by decide), cif_f (by rw [nI_clamp (show s < 2 ^ 31 by omega)]; exact b3)] at hQ
          exact hQ
      · exact absurd (by decide) b2
    · refine h_ifeq (tgt := 17) dX12_stationOf_5 rfl (fun _ => ?_) (fun c => absurd (by decide) c)
      refine h_ldc dX12_stationOf_17 k5_187 ?_
      refine h_ireturn dX12_stationOf_19 rfl ?_
      have hQ := hQ _ (RO_id I)
      unfold soF at hQ
      rw [cif_f (fun z => b1 z.1)] at hQ
      exact hQ
  by_cases e_3 : w = nI 3
  · subst e_3
    show HV l mX12_stationOf (dp + 3) 0 0 0 [some (.ref 82), some (.int x), some (.int (nI 3))] [] hSH I J (hRR lt tx) Q
    refine h_aload_n dX12_stationOf_0 rfl ?_
    refine h_iload_n dX12_stationOf_1 rfl ?_
    refine h_cV1 dX12_stationOf_2 k5_179 oVX12_isStation rfl rfl ?_
    refine r_isStation (n := ns) hns (by omega) (fun b1 => ?_) (fun b1 => ?_)
    · obtain ⟨s, hs, rfl⟩ := b1
      refine h_ifeq (tgt := 17) dX12_stationOf_5 rfl (fun c => absurd c (by decide)) (fun _ => ?_)
      refine h_iload_n dX12_stationOf_8 rfl ?_
      refine h_iconst dX12_stationOf_9 ci_0 ?_
      refine h_iconst dX12_stationOf_10 ci_4 ?_
      refine h_cS3 dX12_stationOf_11 k5_172 oSX12_in rfl ?_
      refine c_X12_in (fun b2 => ?_) (fun b2 => ?_)
      · refine h_ifne (tgt := 20) dX12_stationOf_14 rfl (fun _ => ?_) (fun c => absurd c (by decide))
        refine h_iload_n dX12_stationOf_20 rfl ?_
        refine h_iconst dX12_stationOf_21 ci_2 ?_
        refine h_icmple (tgt := 45) dX12_stationOf_22 rfl (fun c => absurd c (by decide)) (fun _ => ?_)
        refine h_iload_n dX12_stationOf_25 rfl ?_
        refine h_iconst dX12_stationOf_26 ci_3 ?_
        refine h_icmpne (tgt := 39) dX12_stationOf_27 rfl (fun c => absurd (by decide) c) (fun _ => ?_)
        refine h_aload_n dX12_stationOf_30 rfl ?_
        refine h_getR dX12_stationOf_31 f_X12_7_10 rfl rfl ?_
        refine h_iload_n dX12_stationOf_34 rfl ?_
        refine h_ialdN (j := s) dX12_stationOf_35 rfl rfl (by omega) rfl (hpl _ (by omega)) ?_
        refine h_goto (tgt := 44) dX12_stationOf_36 rfl ?_
        refine h_ireturn dX12_stationOf_44 rfl ?_
        have hQ := hQ _ (RO_id I)
        unfold soF at hQ
        rw [cif_t ⟨⟨s, hs, rfl⟩, by decide, by decide⟩, cif_t rfl, nI_clamp (show s < 2 ^ 31 by omega)] at hQ
        exact hQ
      · exact absurd (by decide) b2
    · refine h_ifeq (tgt := 17) dX12_stationOf_5 rfl (fun _ => ?_) (fun c => absurd (by decide) c)
      refine h_ldc dX12_stationOf_17 k5_187 ?_
      refine h_ireturn dX12_stationOf_19 rfl ?_
      have hQ := hQ _ (RO_id I)
      unfold soF at hQ
      rw [cif_f (fun z => b1 z.1)] at hQ
      exact hQ
  by_cases e_4 : w = nI 4
  · subst e_4
    show HV l mX12_stationOf (dp + 3) 0 0 0 [some (.ref 82), some (.int x), some (.int (nI 4))] [] hSH I J (hRR lt tx) Q
    refine h_aload_n dX12_stationOf_0 rfl ?_
    refine h_iload_n dX12_stationOf_1 rfl ?_
    refine h_cV1 dX12_stationOf_2 k5_179 oVX12_isStation rfl rfl ?_
    refine r_isStation (n := ns) hns (by omega) (fun b1 => ?_) (fun b1 => ?_)
    · obtain ⟨s, hs, rfl⟩ := b1
      refine h_ifeq (tgt := 17) dX12_stationOf_5 rfl (fun c => absurd c (by decide)) (fun _ => ?_)
      refine h_iload_n dX12_stationOf_8 rfl ?_
      refine h_iconst dX12_stationOf_9 ci_0 ?_
      refine h_iconst dX12_stationOf_10 ci_4 ?_
      refine h_cS3 dX12_stationOf_11 k5_172 oSX12_in rfl ?_
      refine c_X12_in (fun b2 => ?_) (fun b2 => ?_)
      · refine h_ifne (tgt := 20) dX12_stationOf_14 rfl (fun _ => ?_) (fun c => absurd c (by decide))
        refine h_iload_n dX12_stationOf_20 rfl ?_
        refine h_iconst dX12_stationOf_21 ci_2 ?_
        refine h_icmple (tgt := 45) dX12_stationOf_22 rfl (fun c => absurd c (by decide)) (fun _ => ?_)
        refine h_iload_n dX12_stationOf_25 rfl ?_
        refine h_iconst dX12_stationOf_26 ci_3 ?_
        refine h_icmpne (tgt := 39) dX12_stationOf_27 rfl (fun _ => ?_) (fun c => absurd c (by decide))
        refine h_aload_n dX12_stationOf_39 rfl ?_
        refine h_iload_n dX12_stationOf_40 rfl ?_
        refine h_cV1 dX12_stationOf_41 k5_192 oVX12_leanAt rfl rfl ?_
        refine r_leanAt hG hs ?_
        refine h_ireturn dX12_stationOf_44 rfl ?_
        have hQ := hQ _ (RO_id I)
        unfold soF at hQ
        rw [cif_t ⟨⟨s, hs, rfl⟩, by decide, by decide⟩, cif_f (by decide), cif_t rfl, nI_clamp (show s < 2 ^ 31 by omega)] at hQ
        exact hQ
      · exact absurd (by decide) b2
    · refine h_ifeq (tgt := 17) dX12_stationOf_5 rfl (fun _ => ?_) (fun c => absurd (by decide) c)
      refine h_ldc dX12_stationOf_17 k5_187 ?_
      refine h_ireturn dX12_stationOf_19 rfl ?_
      have hQ := hQ _ (RO_id I)
      unfold soF at hQ
      rw [cif_f (fun z => b1 z.1)] at hQ
      exact hQ
  show HV l mX12_stationOf (dp + 3) 0 0 0 [some (.ref 82), some (.int x), some (.int w)] [] hSH I J (hRR lt tx) Q
  refine h_aload_n dX12_stationOf_0 rfl ?_
  refine h_iload_n dX12_stationOf_1 rfl ?_
  refine h_cV1 dX12_stationOf_2 k5_179 oVX12_isStation rfl rfl ?_
  refine r_isStation (n := ns) hns (by omega) (fun b1 => ?_) (fun b1 => ?_)
  · obtain ⟨s, hs, rfl⟩ := b1
    refine h_ifeq (tgt := 17) dX12_stationOf_5 rfl (fun c => absurd c (by decide)) (fun _ => ?_)
    refine h_iload_n dX12_stationOf_8 rfl ?_
    refine h_iconst dX12_stationOf_9 ci_0 ?_
    refine h_iconst dX12_stationOf_10 ci_4 ?_
    refine h_cS3 dX12_stationOf_11 k5_172 oSX12_in rfl ?_
    refine c_X12_in (fun b2 => ?_) (fun b2 => ?_)
    · exfalso
      obtain ⟨wn, rfl, hw1, hw9⟩ := rng_ex (by omega) (by omega) b2.1 b2.2
      rcases (show wn = 0 ∨ wn = 1 ∨ wn = 2 ∨ wn = 3 ∨ wn = 4 by omega) with rfl | rfl | rfl | rfl | rfl
      · exact e_0 rfl
      · exact e_1 rfl
      · exact e_2 rfl
      · exact e_3 rfl
      · exact e_4 rfl
    · refine h_ifne (tgt := 20) dX12_stationOf_14 rfl (fun c => absurd (by decide) c) (fun _ => ?_)
      refine h_ldc dX12_stationOf_17 k5_187 ?_
      refine h_ireturn dX12_stationOf_19 rfl ?_
      have hQ := hQ _ (RO_id I)
      unfold soF at hQ
      rw [cif_f (fun z => b2 z.2)] at hQ
      exact hQ
  · refine h_ifeq (tgt := 17) dX12_stationOf_5 rfl (fun _ => ?_) (fun c => absurd (by decide) c)
    refine h_ldc dX12_stationOf_17 k5_187 ?_
    refine h_ireturn dX12_stationOf_19 rfl ?_
    have hQ := hQ _ (RO_id I)
    unfold soF at hQ
    rw [cif_f (fun z => b1 z.1)] at hQ
    exact hQ
