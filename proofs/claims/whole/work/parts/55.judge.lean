def rgt (ns nl : Nat) (fa fb sl : Nat → Nat) (rs rc : Nat → Int32) (i : Nat) : Prop := ∃ s, s < ns ∧ rc (3 * i) = nI s ∧ dist fa fb sl nl s < 1000000 ∧ (i = 0 ∨ rc (3 * i - 3) < nI s) ∧ rc (3 * i + 1) = lvl fa fb sl rs nl s ∧ rc (3 * i + 2) = nI (dist fa fb sl nl s)
noncomputable def fbR (P : Nat → Prop) : Nat → Nat → Nat
  | 0, _ => 0
  | m + 1, k => @ite _ (P k) (Classical.propDecidable _) (fbR P m (k + 1)) (k + 1)
theorem fbR_t {P : Nat → Prop} {m k : Nat} (h : P k) : fbR P (m + 1) k = fbR P m (k + 1) := @if_pos _ (Classical.propDecidable _) h _ _ _
theorem fbR_f {P : Nat → Prop} {m k : Nat} (h : ¬ P k) : fbR P (m + 1) k = k + 1 := @if_neg _ (Classical.propDecidable _) h _ _ _
theorem fbR_0 {P : Nat → Prop} : ∀ {m k : Nat}, fbR P m k = 0 → ∀ i, k ≤ i → i < k + m → P i
  | 0, k, _, i, h1, h2 => by omega
  | m + 1, k, h, i, h1, h2 => by
    by_cases e : P k
    · by_cases q : i = k
      · rw [q]; exact e
      · rw [fbR_t e] at h
        exact fbR_0 h i (by omega) (by omega)
    · rw [fbR_f e] at h; omega
theorem pvN_mono {d : Nat → Nat} : ∀ a b, a ≤ b → pvN d a ≤ pvN d b := by
  intro a b hab
  induction b with
  | zero => rw [show a = 0 by omega]; exact Nat.le_refl _
  | succ b ihb =>
    by_cases q : a = b + 1
    · rw [q]; exact Nat.le_refl _
    · have := ihb (by omega)
      by_cases z : d b < 1000000
      · rw [(pv_y (lv := fun _ => 0) z).1]; omega
      · rw [(pv_n (lv := fun _ => 0) z).1]; omega
/-- as many rows as stations with a level, at most -/
theorem rg_cnt {ns nl : Nat} {fa fb sl : Nat → Nat} {rs rc : Nat → Int32} (hn : ns ≤ 6) {nr : Nat} (h : ∀ i, i < nr → rgt ns nl fa fb sl rs rc i) : nr ≤ pvN (dist fa fb sl nl) ns := by
  have key : ∀ i, i < nr → ∃ s, s < ns ∧ rc (3 * i) = nI s ∧ dist fa fb sl nl s < 1000000 ∧ i ≤ pvN (dist fa fb sl nl) s := by
    intro i
    induction i with
    | zero => intro hi; obtain ⟨s, h1, h2, h3, -⟩ := h 0 hi; exact ⟨s, h1, h2, h3, by omega⟩
    | succ i ih =>
      intro hi
      obtain ⟨s, h1, h2, h3, h4⟩ := ih (by omega)
      obtain ⟨t, k1, k2, k3, k4, -⟩ := h (i + 1) hi
      refine ⟨t, k1, k2, k3, ?_⟩
      have k5 := k4.resolve_left (by omega)
      rw [show 3 * (i + 1) - 3 = 3 * i by omega, h2] at k5
      have k6 := Int32.lt_iff_toInt_lt.mp k5
      rw [nI_toInt (by omega), nI_toInt (by omega)] at k6
      have m1 := pvN_mono (d := dist fa fb sl nl) (s + 1) t (by omega)
      have m2 := (pv_y (lv := lvl fa fb sl rs nl) h3).1
      omega
  by_cases q : nr = 0
  · omega
  · obtain ⟨s, h1, h2, h3, h4⟩ := key (nr - 1) (by omega)
    have m1 := pvN_mono (d := dist fa fb sl nl) (s + 1) ns (by omega)
    have m2 := (pv_y (lv := lvl fa fb sl rs nl) h3).1
    omega
theorem c_isRight {l : Launch} {dp : Nat} {ns nl np ml nk nw : Nat} {pl fa fb sl pp pm ki fr tg wh bw : Nat → Nat} {rs sn : Nat → Int32} {fl : Nat → Bool} {qw : Nat → Nat → Nat → Nat → Bool} {I : hI} {J : hJ} {lt tx : Option Nat} {nr : Nat} {rc : Nat → Int32} {i : Nat} {Q : hQ} (hG : cG I ns nl np ml nk nw pl fa fb sl pp pm ki fr tg wh bw rs sn fl qw) (hRw : cR I nr rc) (hi : i < nr) (h1 : rgt ns nl fa fb sl rs rc i → Q (some (.int (nI 1))) hSH I J (hRR lt tx)) (h0 : ¬ rgt ns nl fa fb sl rs rc i → Q (some (.int (nI 0))) hSH I J (hRR lt tx)) : HC l mX11_isRightRow (dp + 1) 0 0 [.ref 0, .int (nI i)] hSH I J (hRR lt tx) Q := by
  refine HC.of (by decide +kernel) rfl (Nat.le_of_ble_eq_true rfl) ?_
  show HV l mX11_isRightRow (dp + 1) 0 0 0 [some (.ref 0), some (.int (nI i)), none, none] [] hSH I J (hRR lt tx) Q
  obtain ⟨⟨hN, hdo, hla, hlv⟩, hw, ⟨hnp, hml, hnk, hpt, hsi, hbt⟩, ⟨hn8, hm2, hn24, hpW, hsW⟩, hL⟩ := id hG
  obtain ⟨hns, hnl, hpl, hlg⟩ := id hN
  obtain ⟨hn6, hl12, hW, hp99, hr99⟩ := id hw
  obtain ⟨hnr, hr6, hrc⟩ := id hRw
  refine h_iload_n dX11_isRightRow_0 rfl ?_
  refine h_iconst dX11_isRightRow_1 ci_3 ?_
  refine h_imulN dX11_isRightRow_2 ?_
  refine h_istore_n dX11_isRightRow_3 (Nat.le_of_ble_eq_true rfl) ?_
  refine h_aload_n dX11_isRightRow_4 rfl ?_
  refine h_getR dX11_isRightRow_5 f_X11_47_9 rfl rfl ?_
  refine h_iload_n dX11_isRightRow_8 rfl ?_
  refine h_ialdN (j := 3 * i) dX11_isRightRow_9 rfl (by rw [Nat.mul_comm]) (by omega) rfl (hrc _ (by omega)) ?_
  refine h_istore_n dX11_isRightRow_10 (Nat.le_of_ble_eq_true rfl) ?_
  refine h_aload_n dX11_isRightRow_11 rfl ?_
  refine h_getR dX11_isRightRow_12 f_X11_20_9 rfl rfl ?_
  refine h_iload_n dX11_isRightRow_15 rfl ?_
  refine h_cV1 dX11_isRightRow_16 k2_223 oVX5_hasLevel rfl rfl ?_
  refine c_hasLevel (f := dist fa fb sl nl) hns hn6 hdo (fun s hs e0 b3 => ?_) (fun b3 => ?_)
  · rw [e0]
    refine h_ifeq (tgt := 38) dX11_isRightRow_19 rfl (fun c => absurd c (by decide)) (fun _ => ?_)
    refine h_iload_n dX11_isRightRow_22 rfl ?_
    refine h_ifle (tgt := 40) dX11_isRightRow_23 rfl (fun c_23 => ?_) (fun c_23 => ?_)
    · rw [show (0 : Int32) = nI 0 from rfl, nI_leI (by omega) (by omega)] at c_23
      refine h_aload_n dX11_isRightRow_40 rfl ?_
      refine h_getR dX11_isRightRow_41 f_X11_47_9 rfl rfl ?_
      refine h_iload_n dX11_isRightRow_44 rfl ?_
      refine h_iconst dX11_isRightRow_45 ci_1 ?_
      refine h_iaddN dX11_isRightRow_46 ?_
      refine h_ialdN (j := 3 * i + 1) dX11_isRightRow_47 rfl (by rw [Nat.mul_comm]) (by omega) rfl (hrc _ (by omega)) ?_
      refine h_aload_n dX11_isRightRow_48 rfl ?_
      refine h_getR dX11_isRightRow_49 f_X11_20_9 rfl rfl ?_
      refine h_getR dX11_isRightRow_52 f_X11_151_5 rfl rfl ?_
      refine h_iload_n dX11_isRightRow_55 rfl ?_
      refine h_ialdN (j := s) dX11_isRightRow_56 rfl rfl (by omega) rfl (hlv s hs) ?_
      refine h_icmpne (tgt := 84) dX11_isRightRow_57 rfl (fun c_57 => ?_) (fun c_57 => ?_)
      · refine h_iconst dX11_isRightRow_84 ci_0 ?_
        refine h_zreturn dX11_isRightRow_85 rfl (by decide) ?_
        exact h0 (by
          rintro ⟨t, k1, k2, k3, k4, k5, k6⟩
          rw [e0] at k2
          rw [nI_eq (by omega) (by omega)] at k2
          subst k2
          exact c_57 k5)
      · refine h_aload_n dX11_isRightRow_60 rfl ?_
        refine h_getR dX11_isRightRow_61 f_X11_47_9 rfl rfl ?_
        refine h_iload_n dX11_isRightRow_64 rfl ?_
        refine h_iconst dX11_isRightRow_65 ci_2 ?_
        refine h_iaddN dX11_isRightRow_66 ?_
        refine h_ialdN (j := 3 * i + 2) dX11_isRightRow_67 rfl (by rw [Nat.mul_comm]) (by omega) rfl (hrc _ (by omega)) ?_
        refine h_aload_n dX11_isRightRow_68 rfl ?_
        refine h_getR dX11_isRightRow_69 f_X11_20_9 rfl rfl ?_
        refine h_getR dX11_isRightRow_72 f_X11_154_5 rfl rfl ?_
        refine h_iload_n dX11_isRightRow_75 rfl ?_
        refine h_ialdN (j := s) dX11_isRightRow_76 rfl rfl (by omega) rfl ((hdo s hs).trans (enc_lt b3)) ?_
        refine h_icmpne (tgt := 84) dX11_isRightRow_77 rfl (fun c_77 => ?_) (fun c_77 => ?_)
        · refine h_iconst dX11_isRightRow_84 ci_0 ?_
          refine h_zreturn dX11_isRightRow_85 rfl (by decide) ?_
          exact h0 (by
            rintro ⟨t, k1, k2, k3, k4, k5, k6⟩
            rw [e0] at k2
            rw [nI_eq (by omega) (by omega)] at k2
            subst k2
            exact c_77 k6)
        · refine h_iconst dX11_isRightRow_80 ci_1 ?_
          refine h_goto (tgt := 85) dX11_isRightRow_81 rfl ?_
          refine h_zreturn dX11_isRightRow_85 rfl (by decide) ?_
          exact h1 ⟨s, hs, e0, b3, .inl (by omega), c_57, c_77⟩
    · rw [show (0 : Int32) = nI 0 from rfl, nI_leI (by omega) (by omega)] at c_23
      refine h_iload_n dX11_isRightRow_26 rfl ?_
      refine h_aload_n dX11_isRightRow_27 rfl ?_
      refine h_getR dX11_isRightRow_28 f_X11_47_9 rfl rfl ?_
      refine h_iload_n dX11_isRightRow_31 rfl ?_
      refine h_iconst dX11_isRightRow_32 ci_3 ?_
      refine h_isubN dX11_isRightRow_33 (by omega) ?_
      refine h_ialdN (j := 3 * i - 3) dX11_isRightRow_34 rfl (by rw [Nat.mul_comm]) (by omega) rfl (hrc _ (by omega)) ?_
      refine h_icmpgt (tgt := 40) dX11_isRightRow_35 rfl (fun c_35 => ?_) (fun c_35 => ?_)
      · refine h_aload_n dX11_isRightRow_40 rfl ?_
        refine h_getR dX11_isRightRow_41 f_X11_47_9 rfl rfl ?_
        refine h_iload_n dX11_isRightRow_44 rfl ?_
        refine h_iconst dX11_isRightRow_45 ci_1 ?_
        refine h_iaddN dX11_isRightRow_46 ?_
        refine h_ialdN (j := 3 * i + 1) dX11_isRightRow_47 rfl (by rw [Nat.mul_comm]) (by omega) rfl (hrc _ (by omega)) ?_
        refine h_aload_n dX11_isRightRow_48 rfl ?_
        refine h_getR dX11_isRightRow_49 f_X11_20_9 rfl rfl ?_
        refine h_getR dX11_isRightRow_52 f_X11_151_5 rfl rfl ?_
        refine h_iload_n dX11_isRightRow_55 rfl ?_
        refine h_ialdN (j := s) dX11_isRightRow_56 rfl rfl (by omega) rfl (hlv s hs) ?_
        refine h_icmpne (tgt := 84) dX11_isRightRow_57 rfl (fun c_57 => ?_) (fun c_57 => ?_)
        · refine h_iconst dX11_isRightRow_84 ci_0 ?_
          refine h_zreturn dX11_isRightRow_85 rfl (by decide) ?_
          exact h0 (by
            rintro ⟨t, k1, k2, k3, k4, k5, k6⟩
            rw [e0] at k2
            rw [nI_eq (by omega) (by omega)] at k2
            subst k2
            exact c_57 k5)
        · refine h_aload_n dX11_isRightRow_60 rfl ?_
          refine h_getR dX11_isRightRow_61 f_X11_47_9 rfl rfl ?_
          refine h_iload_n dX11_isRightRow_64 rfl ?_
          refine h_iconst dX11_isRightRow_65 ci_2 ?_
          refine h_iaddN dX11_isRightRow_66 ?_
          refine h_ialdN (j := 3 * i + 2) dX11_isRightRow_67 rfl (by rw [Nat.mul_comm]) (by omega) rfl (hrc _ (by omega)) ?_
          refine h_aload_n dX11_isRightRow_68 rfl ?_
          refine h_getR dX11_isRightRow_69 f_X11_20_9 rfl rfl ?_
          refine h_getR dX11_isRightRow_72 f_X11_154_5 rfl rfl ?_
          refine h_iload_n dX11_isRightRow_75 rfl ?_
          refine h_ialdN (j := s) dX11_isRightRow_76 rfl rfl (by omega) rfl ((hdo s hs).trans (enc_lt b3)) ?_
          refine h_icmpne (tgt := 84) dX11_isRightRow_77 rfl (fun c_77 => ?_) (fun c_77 => ?_)
          · refine h_iconst dX11_isRightRow_84 ci_0 ?_
            refine h_zreturn dX11_isRightRow_85 rfl (by decide) ?_
            exact h0 (by
              rintro ⟨t, k1, k2, k3, k4, k5, k6⟩
              rw [e0] at k2
              rw [nI_eq (by omega) (by omega)] at k2
              subst k2
              exact c_77 k6)
          · refine h_iconst dX11_isRightRow_80 ci_1 ?_
            refine h_goto (tgt := 85) dX11_isRightRow_81 rfl ?_
            refine h_zreturn dX11_isRightRow_85 rfl (by decide) ?_
            exact h1 ⟨s, hs, e0, b3, .inr c_35, c_57, c_77⟩
      · refine h_iconst dX11_isRightRow_38 ci_0 ?_
        refine h_zreturn dX11_isRightRow_39 rfl (by decide) ?_
        exact h0 (by
          rintro ⟨t, k1, k2, k3, k4, k5, k6⟩
          rw [e0] at k2
          rw [nI_eq (by omega) (by omega)] at k2
          subst k2
          exact c_35 (k4.resolve_left (by omega)))
  · refine h_ifeq (tgt := 38) dX11_isRightRow_19 rfl (fun _ => ?_) (fun c => absurd (by decide) c)
    refine h_iconst dX11_isRightRow_38 ci_0 ?_
    refine h_zreturn dX11_isRightRow_39 rfl (by decide) ?_
    exact h0 (by
      rintro ⟨t, k1, k2, k3, k4, k5, k6⟩
      exact b3 t k1 k2 k3)
noncomputable def jdF (P : Nat → Prop) (nr cnt : Nat) : Nat := if fbR P nr 0 = 0 then (if nr < cnt then 22 else 0) else fbR P nr 0
theorem jdF_f {P : Nat → Prop} {nr cnt k : Nat} (h : fbR P nr 0 = k + 1) : jdF P nr cnt = k + 1 := by
  unfold jdF; rw [if_neg (by omega)]; exact h
theorem jdF_a {P : Nat → Prop} {nr cnt : Nat} (h : fbR P nr 0 = 0) (h2 : nr < cnt) : jdF P nr cnt = 22 := by
  unfold jdF; rw [if_pos h, if_pos h2]
theorem jdF_b {P : Nat → Prop} {nr cnt : Nat} (h : fbR P nr 0 = 0) (h2 : ¬ nr < cnt) : jdF P nr cnt = 0 := by
  unfold jdF; rw [if_pos h, if_neg h2]
theorem c_judge {l : Launch} {dp : Nat} {ns nl np ml nk nw : Nat} {pl fa fb sl pp pm ki fr tg wh bw : Nat → Nat} {rs sn : Nat → Int32} {fl : Nat → Bool} {qw : Nat → Nat → Nat → Nat → Bool} {I : hI} {J : hJ} {lt tx : Option Nat} {nr : Nat} {rc : Nat → Int32} {Q : hQ} (hG : cG I ns nl np ml nk nw pl fa fb sl pp pm ki fr tg wh bw rs sn fl qw) (hRw : cR I nr rc) (hQ : Q (some (.int (nI (jdF (rgt ns nl fa fb sl rs rc) nr (pvN (dist fa fb sl nl) ns))))) hSH I J (hRR lt tx)) : HC l mX11_judge (dp + 2) 0 0 [.ref 0] hSH I J (hRR lt tx) Q := by
  refine HC.of (by decide +kernel) rfl (Nat.le_of_ble_eq_true rfl) ?_
  obtain ⟨⟨hN, hdo, hla, hlv⟩, hw, ⟨hnp, hml, hnk, hpt, hsi, hbt⟩, ⟨hn8, hm2, hn24, hpW, hsW⟩, hL⟩ := id hG
  obtain ⟨hns, hnl, hpl, hlg⟩ := id hN
  obtain ⟨hn6, hl12, hW, hp99, hr99⟩ := id hw
  obtain ⟨hnr, hr6, hrc⟩ := id hRw
  have L2 : fbR (rgt ns nl fa fb sl rs rc) nr 0 = 0 → ∀ (m k : Nat), ns - k < m → k ≤ ns → HV l mX11_judge (dp + 2) 0 0 32 [some (.ref 0), some (.int (nI (pvN (dist fa fb sl nl) k))), some (.int (nI k))] [] hSH I J (hRR lt tx) Q := by
    intro hfb m
    have hcn := rg_cnt (rs := rs) (rc := rc) hn6 (fun i hi => fbR_0 hfb i (by omega) (by omega))
    have hcn2 := pvN_le (d := dist fa fb sl nl) ns
    induction m with
    | zero => intro k h1 h2 ; omega
    | succ m ih =>
      intro k h1 h2 
      have hkn := pvN_le (d := dist fa fb sl nl) k
      refine h_iload_n dX11_judge_32 rfl ?_
      refine h_aload_n dX11_judge_33 rfl ?_
      refine h_getR dX11_judge_34 f_X11_20_9 rfl rfl ?_
      refine h_getI dX11_judge_37 f_X11_105_5 rfl hns ?_
      refine h_icmpge (tgt := 63) dX11_judge_40 rfl (fun c_40 => ?_) (fun c_40 => ?_)
      · rw [nI_leI (by omega) (by omega)] at c_40
        refine h_aload_n dX11_judge_63 rfl ?_
        refine h_getI dX11_judge_64 f_X11_51_9 rfl hnr ?_
        refine h_iload_n dX11_judge_67 rfl ?_
        refine h_icmpge (tgt := 76) dX11_judge_68 rfl (fun c_68 => ?_) (fun c_68 => ?_)
        · rw [nI_leI (by omega) (by omega)] at c_68
          refine h_iconst dX11_judge_76 ci_0 ?_
          refine h_ireturn dX11_judge_77 rfl ?_
          have ek : ns = k := by omega
          subst ek
          have hq := hQ
          rw [jdF_b hfb (by omega)] at hq
          exact hq
        · rw [nI_leI (by omega) (by omega)] at c_68
          refine h_bipush dX11_judge_71 cb_22 ?_
          refine h_goto (tgt := 77) dX11_judge_73 rfl ?_
          refine h_ireturn dX11_judge_77 rfl ?_
          have ek : ns = k := by omega
          subst ek
          have hq := hQ
          rw [jdF_a hfb (by omega)] at hq
          exact hq
      · rw [nI_leI (by omega) (by omega)] at c_40
        refine h_aload_n dX11_judge_43 rfl ?_
        refine h_getR dX11_judge_44 f_X11_20_9 rfl rfl ?_
        refine h_iload_n dX11_judge_47 rfl ?_
        refine h_cV1 dX11_judge_48 k2_223 oVX5_hasLevel rfl rfl ?_
        refine c_hasLevelN (f := dist fa fb sl nl) hns hn6 hdo (by omega) (fun b3 => ?_) (fun b3 => ?_)
        · refine h_ifeq (tgt := 57) dX11_judge_51 rfl (fun c => absurd c (by decide)) (fun _ => ?_)
          refine h_iinc (v := nI (pvN (dist fa fb sl nl) k + 1)) dX11_judge_54 rfl (nI_1 _) (Nat.le_of_ble_eq_true rfl) ?_
          refine h_iinc (v := nI (k + 1)) dX11_judge_57 rfl (nI_1 _) (Nat.le_of_ble_eq_true rfl) ?_
          refine h_goto (tgt := 32) dX11_judge_60 rfl ?_
          have h3 := ih (k + 1) (by omega) (by omega)
          rw [(pv_y (d := dist fa fb sl nl) (lv := lvl fa fb sl rs nl) b3).1] at h3
          exact h3
        · refine h_ifeq (tgt := 57) dX11_judge_51 rfl (fun _ => ?_) (fun c => absurd (by decide) c)
          refine h_iinc (v := nI (k + 1)) dX11_judge_57 rfl (nI_1 _) (Nat.le_of_ble_eq_true rfl) ?_
          refine h_goto (tgt := 32) dX11_judge_60 rfl ?_
          have h3 := ih (k + 1) (by omega) (by omega)
          rw [(pv_n (d := dist fa fb sl nl) (lv := lvl fa fb sl rs nl) b3).1] at h3
          exact h3
  have L1 : ∀ (m k : Nat), m + k = nr → fbR (rgt ns nl fa fb sl rs rc) m k = fbR (rgt ns nl fa fb sl rs rc) nr 0 → ∀ z2, HV l mX11_judge (dp + 2) 0 0 2 [some (.ref 0), some (.int (nI k)), z2] [] hSH I J (hRR lt tx) Q := by
    intro m
    induction m with
    | zero =>
      intro k h1 h2 z2
      refine h_iload_n dX11_judge_2 rfl ?_
      refine h_aload_n dX11_judge_3 rfl ?_
      refine h_getI dX11_judge_4 f_X11_51_9 rfl hnr ?_
      refine h_icmpge (tgt := 28) dX11_judge_7 rfl (fun c_7 => ?_) (fun c_7 => ?_)
      · rw [nI_leI (by omega) (by omega)] at c_7
        refine h_iconst dX11_judge_28 ci_0 ?_
        refine h_istore_n dX11_judge_29 (Nat.le_of_ble_eq_true rfl) ?_
        refine h_iconst dX11_judge_30 ci_0 ?_
        refine h_istore_n dX11_judge_31 (Nat.le_of_ble_eq_true rfl) ?_
        exact L2 h2.symm (ns + 1) 0 (by omega) (by omega)
      · rw [nI_leI (by omega) (by omega)] at c_7
        exfalso
        omega
    | succ m ih =>
      intro k h1 h2 z2
      refine h_iload_n dX11_judge_2 rfl ?_
      refine h_aload_n dX11_judge_3 rfl ?_
      refine h_getI dX11_judge_4 f_X11_51_9 rfl hnr ?_
      refine h_icmpge (tgt := 28) dX11_judge_7 rfl (fun c_7 => ?_) (fun c_7 => ?_)
      · rw [nI_leI (by omega) (by omega)] at c_7
        exfalso
        omega
      · rw [nI_leI (by omega) (by omega)] at c_7
        refine h_aload_n dX11_judge_10 rfl ?_
        refine h_iload_n dX11_judge_11 rfl ?_
        refine h_cV1 dX11_judge_12 k4_38 oVX11_isRightRow rfl rfl ?_
        refine c_isRight hG hRw (by omega) (fun b1 => ?_) (fun b1 => ?_)
        · refine h_ifne (tgt := 22) dX11_judge_15 rfl (fun _ => ?_) (fun c => absurd c (by decide))
          refine h_iinc (v := nI (k + 1)) dX11_judge_22 rfl (nI_1 _) (Nat.le_of_ble_eq_true rfl) ?_
          refine h_goto (tgt := 2) dX11_judge_25 rfl ?_
          exact ih (k + 1) (by omega) ((fbR_t b1).symm.trans h2) _
        · refine h_ifne (tgt := 22) dX11_judge_15 rfl (fun c => absurd (by decide) c) (fun _ => ?_)
          refine h_iload_n dX11_judge_18 rfl ?_
          refine h_iconst dX11_judge_19 ci_1 ?_
          refine h_iaddN dX11_judge_20 ?_
          refine h_ireturn dX11_judge_21 rfl ?_
          have hq := hQ
          rw [jdF_f (h2.symm.trans (fbR_f b1))] at hq
          exact hq
  show HV l mX11_judge (dp + 2) 0 0 0 [some (.ref 0), none, none] [] hSH I J (hRR lt tx) Q
  refine h_iconst dX11_judge_0 ci_0 ?_
  refine h_istore_n dX11_judge_1 (Nat.le_of_ble_eq_true rfl) ?_
  exact L1 nr 0 (by omega) rfl _
theorem r_judge {l : Launch} {dp : Nat} {ns nl np ml nk nw : Nat} {pl fa fb sl pp pm ki fr tg wh bw : Nat → Nat} {rs sn : Nat → Int32} {fl : Nat → Bool} {qw : Nat → Nat → Nat → Nat → Bool} {I : hI} {J : hJ} {lt tx : Option Nat} {nr : Nat} {rc : Nat → Int32} {Q : hQ} (hG : rG I ns nl np ml nk nw pl fa fb sl pp pm ki fr tg wh bw rs sn fl qw) (hRw : rR I nr rc) (hQ : ∀ a b c, Q (some (.int (nI (jdF (rgt ns nl fa fb sl rs rc) nr (pvN (dist fa fb sl nl) ns))))) hSH (upA (upA (upA I 90 a) 92 b) 91 c) J (hRR lt tx)) : HC l mX12_judge (dp + 3) 0 0 [.ref 82] hSH I J (hRR lt tx) Q := by
  refine HC.of (by decide +kernel) rfl (Nat.le_of_ble_eq_true rfl) ?_
  obtain ⟨hN, hw, ⟨hnp, hml, hnk, hpt, hsi⟩, ⟨hn8, hm2, hn24, hpW, hsW⟩, hL⟩ := id hG
  obtain ⟨hns, hnl, hpl, hlg⟩ := id hN
  obtain ⟨hn6, hl12, hW, hp99, hr99⟩ := id hw
  obtain ⟨hnr, hr6, hrc⟩ := id hRw
  have L2 : ∀ (a b c : Nat → Int32), rL (upA (upA (upA I 90 a) 92 b) 91 c) ns nl fa fb sl rs → fbR (rgt ns nl fa fb sl rs rc) nr 0 = 0 → ∀ (m k : Nat), ns - k < m → k ≤ ns → ∀ z3, HV l mX12_judge (dp + 3) 0 0 131 [some (.ref 82), some (.int (nI (pvN (dist fa fb sl nl) k))), some (.int (nI k)), z3] [] hSH (upA (upA (upA I 90 a) 92 b) 91 c) J (hRR lt tx) Q := by
    intro a b c hLv
    intro hfb m
    have hcn := rg_cnt (rs := rs) (rc := rc) hn6 (fun i hi => fbR_0 hfb i (by omega) (by omega))
    have hcn2 := pvN_le (d := dist fa fb sl nl) ns
    induction m with
    | zero => intro k h1 h2 z3; omega
    | succ m ih =>
      intro k h1 h2 z3
      have hkn := pvN_le (d := dist fa fb sl nl) k
      refine h_iload_n dX12_judge_131 rfl ?_
      refine h_aload_n dX12_judge_132 rfl ?_
      refine h_getI dX12_judge_133 f_X12_102_10 rfl hns ?_
      refine h_icmpge (tgt := 161) dX12_judge_136 rfl (fun c_136 => ?_) (fun c_136 => ?_)
      · rw [nI_leI (by omega) (by omega)] at c_136
        refine h_iload_n dX12_judge_161 rfl ?_
        refine h_aload_n dX12_judge_162 rfl ?_
        refine h_getI dX12_judge_163 f_X12_337_10 rfl hnr ?_
        refine h_icmpne (tgt := 173) dX12_judge_166 rfl (fun c_166 => ?_) (fun c_166 => ?_)
        · rw [nI_eq (by omega) (by omega)] at c_166
          refine h_bipush dX12_judge_173 cb_22 ?_
          refine h_ireturn dX12_judge_175 rfl ?_
          have ek : ns = k := by omega
          subst ek
          have hq := hQ a b c
          rw [jdF_a hfb (by omega)] at hq
          exact hq
        · rw [nI_eq (by omega) (by omega)] at c_166
          refine h_iconst dX12_judge_169 ci_0 ?_
          refine h_goto (tgt := 175) dX12_judge_170 rfl ?_
          refine h_ireturn dX12_judge_175 rfl ?_
          have ek : ns = k := by omega
          subst ek
          have hq := hQ a b c
          rw [jdF_b hfb (by omega)] at hq
          exact hq
      · rw [nI_leI (by omega) (by omega)] at c_136
        refine h_iload_n dX12_judge_139 rfl ?_
        refine h_aload_n dX12_judge_140 rfl ?_
        refine h_iload_n dX12_judge_141 rfl ?_
        refine h_cV1 dX12_judge_142 k5_213 oVX12_hasLevel rfl rfl ?_
        refine r_hasLevel (f := dist fa fb sl nl) (by omega) hLv.1 (bf_le 6) (fun b3 => ?_) (fun b3 => ?_)
        · refine h_ifeq (tgt := 152) dX12_judge_145 rfl (fun c => absurd c (by decide)) (fun _ => ?_)
          refine h_iconst dX12_judge_148 ci_1 ?_
          refine h_goto (tgt := 153) dX12_judge_149 rfl ?_
          refine h_iaddN dX12_judge_153 ?_
          refine h_istore_n dX12_judge_154 (Nat.le_of_ble_eq_true rfl) ?_
          refine h_iinc (v := nI (k + 1)) dX12_judge_155 rfl (nI_1 _) (Nat.le_of_ble_eq_true rfl) ?_
          refine h_goto (tgt := 131) dX12_judge_158 rfl ?_
          have h3 := ih (k + 1) (by omega) (by omega)
          rw [(pv_y (d := dist fa fb sl nl) (lv := lvl fa fb sl rs nl) b3).1] at h3
          exact h3 _
        · refine h_ifeq (tgt := 152) dX12_judge_145 rfl (fun _ => ?_) (fun c => absurd (by decide) c)
          refine h_iconst dX12_judge_152 ci_0 ?_
          refine h_iaddN dX12_judge_153 ?_
          refine h_istore_n dX12_judge_154 (Nat.le_of_ble_eq_true rfl) ?_
          refine h_iinc (v := nI (k + 1)) dX12_judge_155 rfl (nI_1 _) (Nat.le_of_ble_eq_true rfl) ?_
          refine h_goto (tgt := 131) dX12_judge_158 rfl ?_
          have h3 := ih (k + 1) (by omega) (by omega)
          rw [(pv_n (d := dist fa fb sl nl) (lv := lvl fa fb sl rs nl) b3).1] at h3
          exact h3 _
  have L1 : ∀ (a b c : Nat → Int32), rL (upA (upA (upA I 90 a) 92 b) 91 c) ns nl fa fb sl rs → ∀ (m k : Nat), m + k = nr → fbR (rgt ns nl fa fb sl rs rc) m k = fbR (rgt ns nl fa fb sl rs rc) nr 0 → ∀ z2 z3, HV l mX12_judge (dp + 3) 0 0 6 [some (.ref 82), some (.int (nI k)), z2, z3] [] hSH (upA (upA (upA I 90 a) 92 b) 91 c) J (hRR lt tx) Q := by
    intro a b c hLv
    intro m
    induction m with
    | zero =>
      intro k h1 h2 z2 z3
      refine h_iload_n dX12_judge_6 rfl ?_
      refine h_aload_n dX12_judge_7 rfl ?_
      refine h_getI dX12_judge_8 f_X12_337_10 rfl hnr ?_
      refine h_icmpge (tgt := 127) dX12_judge_11 rfl (fun c_11 => ?_) (fun c_11 => ?_)
      · rw [nI_leI (by omega) (by omega)] at c_11
        refine h_iconst dX12_judge_127 ci_0 ?_
        refine h_istore_n dX12_judge_128 (Nat.le_of_ble_eq_true rfl) ?_
        refine h_iconst dX12_judge_129 ci_0 ?_
        refine h_istore_n dX12_judge_130 (Nat.le_of_ble_eq_true rfl) ?_
        exact L2 a b c hLv h2.symm (ns + 1) 0 (by omega) (by omega) _
      · rw [nI_leI (by omega) (by omega)] at c_11
        exfalso
        omega
    | succ m ih =>
      intro k h1 h2 z2 z3
      refine h_iload_n dX12_judge_6 rfl ?_
      refine h_aload_n dX12_judge_7 rfl ?_
      refine h_getI dX12_judge_8 f_X12_337_10 rfl hnr ?_
      refine h_icmpge (tgt := 127) dX12_judge_11 rfl (fun c_11 => ?_) (fun c_11 => ?_)
      · rw [nI_leI (by omega) (by omega)] at c_11
        exfalso
        omega
      · rw [nI_leI (by omega) (by omega)] at c_11
        refine h_aload_n dX12_judge_14 rfl ?_
        refine h_getR dX12_judge_15 f_X12_71_10 rfl rfl ?_
        refine h_iconst dX12_judge_18 ci_3 ?_
        refine h_iload_n dX12_judge_19 rfl ?_
        refine h_imulN dX12_judge_20 ?_
        refine h_ialdN (j := 3 * k) dX12_judge_21 rfl rfl (by omega) rfl (hrc _ (by omega)) ?_
        refine h_istore_n dX12_judge_22 (Nat.le_of_ble_eq_true rfl) ?_
        refine h_aload_n dX12_judge_23 rfl ?_
        refine h_iload_n dX12_judge_24 rfl ?_
        refine h_cV1 dX12_judge_25 k5_179 oVX12_isStation rfl rfl ?_
        refine r_isStation (n := ns) hns (by omega) (fun b1 => ?_) (fun b1 => ?_)
        · obtain ⟨s, hs, e0⟩ := b1
          rw [e0]
          refine h_ifeq (tgt := 73) dX12_judge_28 rfl (fun c => absurd c (by decide)) (fun _ => ?_)
          refine h_aload_n dX12_judge_31 rfl ?_
          refine h_aload_n dX12_judge_32 rfl ?_
          refine h_iload_n dX12_judge_33 rfl ?_
          refine h_cV1 dX12_judge_34 k5_179 oVX12_isStation rfl rfl ?_
          refine r_isStation (n := ns) hns (by omega) (fun b2 => ?_) (fun b2 => ?_)
          · refine h_ifeq (tgt := 44) dX12_judge_37 rfl (fun c => absurd c (by decide)) (fun _ => ?_)
            refine h_iload_n dX12_judge_40 rfl ?_
            refine h_goto (tgt := 45) dX12_judge_41 rfl ?_
            refine h_cV1 dX12_judge_45 k5_213 oVX12_hasLevel rfl rfl ?_
            refine r_hasLevel (f := dist fa fb sl nl) (by omega) hLv.1 (bf_le 6) (fun b3 => ?_) (fun b3 => ?_)
            · refine h_ifeq (tgt := 73) dX12_judge_48 rfl (fun c => absurd c (by decide)) (fun _ => ?_)
              refine h_iload_n dX12_judge_51 rfl ?_
              refine h_ifeq (tgt := 69) dX12_judge_52 rfl (fun c_52 => ?_) (fun c_52 => ?_)
              · rw [show (0 : Int32) = nI 0 from rfl, nI_eq (by omega) (by omega)] at c_52
                refine h_iconst dX12_judge_69 ci_1 ?_
                refine h_goto (tgt := 74) dX12_judge_70 rfl ?_
                refine h_istore_n dX12_judge_74 (Nat.le_of_ble_eq_true rfl) ?_
                refine h_iload_n dX12_judge_75 rfl ?_
                refine h_ifeq (tgt := 117) dX12_judge_76 rfl (fun c => absurd c (by decide)) (fun _ => ?_)
                refine h_aload_n dX12_judge_79 rfl ?_
                refine h_getR dX12_judge_80 f_X12_71_10 rfl rfl ?_
                refine h_iconst dX12_judge_83 ci_3 ?_
                refine h_iload_n dX12_judge_84 rfl ?_
                refine h_imulN dX12_judge_85 ?_
                refine h_iconst dX12_judge_86 ci_1 ?_
                refine h_iaddN dX12_judge_87 ?_
                refine h_ialdN (j := 3 * k + 1) dX12_judge_88 rfl rfl (by omega) rfl (hrc _ (by omega)) ?_
                refine h_aload_n dX12_judge_89 rfl ?_
                refine h_getR dX12_judge_90 f_X12_37_10 rfl rfl ?_
                refine h_iload_n dX12_judge_93 rfl ?_
                refine h_ialdN (j := s) dX12_judge_94 rfl rfl (by omega) rfl (hLv.2.1 s hs b3) ?_
                refine h_icmpne (tgt := 117) dX12_judge_95 rfl (fun c_95 => ?_) (fun c_95 => ?_)
                · refine h_iload_n dX12_judge_117 rfl ?_
                  refine h_iconst dX12_judge_118 ci_1 ?_
                  refine h_iaddN dX12_judge_119 ?_
                  refine h_ireturn dX12_judge_120 rfl ?_
                  have hq := hQ a b c
                  rw [jdF_f (h2.symm.trans (fbR_f (fun z => by
                    obtain ⟨t, k1, k2, k3, k4, k5, k6⟩ := z
                    rw [e0] at k2
                    rw [nI_eq (by omega) (by omega)] at k2
                    subst k2
                    exact c_95 k5)))] at hq
                  exact hq
                · refine h_aload_n dX12_judge_98 rfl ?_
                  refine h_getR dX12_judge_99 f_X12_71_10 rfl rfl ?_
                  refine h_iconst dX12_judge_102 ci_3 ?_
                  refine h_iload_n dX12_judge_103 rfl ?_
                  refine h_imulN dX12_judge_104 ?_
                  refine h_iconst dX12_judge_105 ci_2 ?_
                  refine h_iaddN dX12_judge_106 ?_
                  refine h_ialdN (j := 3 * k + 2) dX12_judge_107 rfl rfl (by omega) rfl (hrc _ (by omega)) ?_
                  refine h_aload_n dX12_judge_108 rfl ?_
                  refine h_getR dX12_judge_109 f_X12_31_10 rfl rfl ?_
                  refine h_iload_n dX12_judge_112 rfl ?_
                  refine h_ialdN (j := s) dX12_judge_113 rfl rfl (by omega) rfl (hLv.1 s (by omega)) ?_
                  refine h_icmpeq (tgt := 121) dX12_judge_114 rfl (fun c_114 => ?_) (fun c_114 => ?_)
                  · refine h_iinc (v := nI (k + 1)) dX12_judge_121 rfl (nI_1 _) (Nat.le_of_ble_eq_true rfl) ?_
                    refine h_goto (tgt := 6) dX12_judge_124 rfl ?_
                    exact ih (k + 1) (by omega) ((fbR_t ⟨s, hs, e0, b3, .inl (by omega), c_95, c_114⟩).symm.trans h2) _ _
                  · refine h_iload_n dX12_judge_117 rfl ?_
                    refine h_iconst dX12_judge_118 ci_1 ?_
                    refine h_iaddN dX12_judge_119 ?_
                    refine h_ireturn dX12_judge_120 rfl ?_
                    have hq := hQ a b c
                    rw [jdF_f (h2.symm.trans (fbR_f (fun z => by
                      obtain ⟨t, k1, k2, k3, k4, k5, k6⟩ := z
                      rw [e0] at k2
                      rw [nI_eq (by omega) (by omega)] at k2
                      subst k2
                      exact c_114 k6)))] at hq
                    exact hq
              · rw [show (0 : Int32) = nI 0 from rfl, nI_eq (by omega) (by omega)] at c_52
                refine h_iload_n dX12_judge_55 rfl ?_
                refine h_aload_n dX12_judge_56 rfl ?_
                refine h_getR dX12_judge_57 f_X12_71_10 rfl rfl ?_
                refine h_iconst dX12_judge_60 ci_3 ?_
                refine h_iload_n dX12_judge_61 rfl ?_
                refine h_imulN dX12_judge_62 ?_
                refine h_iconst dX12_judge_63 ci_3 ?_
                refine h_isubN dX12_judge_64 (by omega) ?_
                refine h_ialdN (j := 3 * k - 3) dX12_judge_65 rfl rfl (by omega) rfl (hrc _ (by omega)) ?_
                refine h_icmple (tgt := 73) dX12_judge_66 rfl (fun c_66 => ?_) (fun c_66 => ?_)
                · refine h_iconst dX12_judge_73 ci_0 ?_
                  refine h_istore_n dX12_judge_74 (Nat.le_of_ble_eq_true rfl) ?_
                  refine h_iload_n dX12_judge_75 rfl ?_
                  refine h_ifeq (tgt := 117) dX12_judge_76 rfl (fun _ => ?_) (fun c => absurd (by decide) c)
                  refine h_iload_n dX12_judge_117 rfl ?_
                  refine h_iconst dX12_judge_118 ci_1 ?_
                  refine h_iaddN dX12_judge_119 ?_
                  refine h_ireturn dX12_judge_120 rfl ?_
                  have hq := hQ a b c
                  rw [jdF_f (h2.symm.trans (fbR_f (fun z => by
                    obtain ⟨t, k1, k2, k3, k4, k5, k6⟩ := z
                    rw [e0] at k2
                    rw [nI_eq (by omega) (by omega)] at k2
                    subst k2
                    exact absurd (k4.resolve_left (by omega)) (Int32.not_lt.mpr c_66))))] at hq
                  exact hq
                · refine h_iconst dX12_judge_69 ci_1 ?_
                  refine h_goto (tgt := 74) dX12_judge_70 rfl ?_
                  refine h_istore_n dX12_judge_74 (Nat.le_of_ble_eq_true rfl) ?_
                  refine h_iload_n dX12_judge_75 rfl ?_
                  refine h_ifeq (tgt := 117) dX12_judge_76 rfl (fun c => absurd c (by decide)) (fun _ => ?_)
                  refine h_aload_n dX12_judge_79 rfl ?_
                  refine h_getR dX12_judge_80 f_X12_71_10 rfl rfl ?_
                  refine h_iconst dX12_judge_83 ci_3 ?_
                  refine h_iload_n dX12_judge_84 rfl ?_
                  refine h_imulN dX12_judge_85 ?_
                  refine h_iconst dX12_judge_86 ci_1 ?_
                  refine h_iaddN dX12_judge_87 ?_
                  refine h_ialdN (j := 3 * k + 1) dX12_judge_88 rfl rfl (by omega) rfl (hrc _ (by omega)) ?_
                  refine h_aload_n dX12_judge_89 rfl ?_
                  refine h_getR dX12_judge_90 f_X12_37_10 rfl rfl ?_
                  refine h_iload_n dX12_judge_93 rfl ?_
                  refine h_ialdN (j := s) dX12_judge_94 rfl rfl (by omega) rfl (hLv.2.1 s hs b3) ?_
                  refine h_icmpne (tgt := 117) dX12_judge_95 rfl (fun c_95 => ?_) (fun c_95 => ?_)
                  · refine h_iload_n dX12_judge_117 rfl ?_
                    refine h_iconst dX12_judge_118 ci_1 ?_
                    refine h_iaddN dX12_judge_119 ?_
                    refine h_ireturn dX12_judge_120 rfl ?_
                    have hq := hQ a b c
                    rw [jdF_f (h2.symm.trans (fbR_f (fun z => by
                      obtain ⟨t, k1, k2, k3, k4, k5, k6⟩ := z
                      rw [e0] at k2
                      rw [nI_eq (by omega) (by omega)] at k2
                      subst k2
                      exact c_95 k5)))] at hq
                    exact hq
                  · refine h_aload_n dX12_judge_98 rfl ?_
                    refine h_getR dX12_judge_99 f_X12_71_10 rfl rfl ?_
                    refine h_iconst dX12_judge_102 ci_3 ?_
                    refine h_iload_n dX12_judge_103 rfl ?_
                    refine h_imulN dX12_judge_104 ?_
                    refine h_iconst dX12_judge_105 ci_2 ?_
                    refine h_iaddN dX12_judge_106 ?_
                    refine h_ialdN (j := 3 * k + 2) dX12_judge_107 rfl rfl (by omega) rfl (hrc _ (by omega)) ?_
                    refine h_aload_n dX12_judge_108 rfl ?_
                    refine h_getR dX12_judge_109 f_X12_31_10 rfl rfl ?_
                    refine h_iload_n dX12_judge_112 rfl ?_
                    refine h_ialdN (j := s) dX12_judge_113 rfl rfl (by omega) rfl (hLv.1 s (by omega)) ?_
                    refine h_icmpeq (tgt := 121) dX12_judge_114 rfl (fun c_114 => ?_) (fun c_114 => ?_)
                    · refine h_iinc (v := nI (k + 1)) dX12_judge_121 rfl (nI_1 _) (Nat.le_of_ble_eq_true rfl) ?_
                      refine h_goto (tgt := 6) dX12_judge_124 rfl ?_
                      exact ih (k + 1) (by omega) ((fbR_t ⟨s, hs, e0, b3, .inr (Int32.not_le.mp c_66), c_95, c_114⟩).symm.trans h2) _ _
                    · refine h_iload_n dX12_judge_117 rfl ?_
                      refine h_iconst dX12_judge_118 ci_1 ?_
                      refine h_iaddN dX12_judge_119 ?_
                      refine h_ireturn dX12_judge_120 rfl ?_
                      have hq := hQ a b c
                      rw [jdF_f (h2.symm.trans (fbR_f (fun z => by
                        obtain ⟨t, k1, k2, k3, k4, k5, k6⟩ := z
                        rw [e0] at k2
                        rw [nI_eq (by omega) (by omega)] at k2
                        subst k2
                        exact c_114 k6)))] at hq
                      exact hq
            · refine h_ifeq (tgt := 73) dX12_judge_48 rfl (fun _ => ?_) (fun c => absurd (by decide) c)
              refine h_iconst dX12_judge_73 ci_0 ?_
              refine h_istore_n dX12_judge_74 (Nat.le_of_ble_eq_true rfl) ?_
              refine h_iload_n dX12_judge_75 rfl ?_
              refine h_ifeq (tgt := 117) dX12_judge_76 rfl (fun _ => ?_) (fun c => absurd (by decide) c)
              refine h_iload_n dX12_judge_117 rfl ?_
              refine h_iconst dX12_judge_118 ci_1 ?_
              refine h_iaddN dX12_judge_119 ?_
              refine h_ireturn dX12_judge_120 rfl ?_
              have hq := hQ a b c
              rw [jdF_f (h2.symm.trans (fbR_f (fun z => by
                obtain ⟨t, k1, k2, k3, k4, k5, k6⟩ := z
                rw [e0] at k2
                rw [nI_eq (by omega) (by omega)] at k2
                subst k2
                exact b3 k3)))] at hq
              exact hq
          · exact absurd ⟨s, hs, rfl⟩ b2
        · refine h_ifeq (tgt := 73) dX12_judge_28 rfl (fun _ => ?_) (fun c => absurd (by decide) c)
          refine h_iconst dX12_judge_73 ci_0 ?_
          refine h_istore_n dX12_judge_74 (Nat.le_of_ble_eq_true rfl) ?_
          refine h_iload_n dX12_judge_75 rfl ?_
          refine h_ifeq (tgt := 117) dX12_judge_76 rfl (fun _ => ?_) (fun c => absurd (by decide) c)
          refine h_iload_n dX12_judge_117 rfl ?_
          refine h_iconst dX12_judge_118 ci_1 ?_
          refine h_iaddN dX12_judge_119 ?_
          refine h_ireturn dX12_judge_120 rfl ?_
          have hq := hQ a b c
          rw [jdF_f (h2.symm.trans (fbR_f (fun z => by
            obtain ⟨t, k1, k2, k3, k4, k5, k6⟩ := z
            exact b1 ⟨t, k1, k2⟩)))] at hq
          exact hq
  show HV l mX12_judge (dp + 3) 0 0 0 [some (.ref 82), none, none, none] [] hSH I J (hRR lt tx) Q
  refine h_aload_n dX12_judge_0 rfl ?_
  refine h_cV0 dX12_judge_1 k5_200 oVX12_findLevels rfl rfl ?_
  refine r_findLevels hN hw (fun a c b hLv => ?_)
  refine h_iconst dX12_judge_4 ci_0 ?_
  refine h_istore_n dX12_judge_5 (Nat.le_of_ble_eq_true rfl) ?_
  exact L1 a b c hLv nr 0 (by omega) rfl _ _
