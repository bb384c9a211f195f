def rgt (ns nl : Nat) (fa fb sl : Nat → Nat) (rs rc : Nat → Int32) (i : Nat) : Prop := ∃ s, s < ns ∧ rc (3 * i) = nI s ∧ dist fa fb sl nl s < 1000000 ∧ (i = 0 ∨ rc (3 * i - 3) < nI s) ∧ rc (3 * i + 1) = lvl fa fb sl rs nl s ∧ rc (3 * i + 2) = nI (dist fa fb sl nl s)
noncomputable def fbR (P : Nat → Prop) : Nat → Nat → Nat
  | 0, _ => 0
  | m + 1, k => @ite _ (P k) (Classical.propDecidable _) (fbR P m (k + 1)) (k + 1)
theorem fbR_t {P : Nat → Prop} {m k : Nat} (h : P k) : fbR P (m + 1) k = fbR P m (k + 1) := @if_pos _ (Classical.propDecidable _) h _ _ _
theorem fbR_f {P : Nat → Prop} {m k : Nat} (h : ¬ P k) : fbR P (m + 1) k = k + 1 := @if_neg _ (Classical.propDecidable _) h _ _ _
theorem fbR_0 {P : Nat → Prop} : ∀ {m k : Nat}, fbR P m k = 0 → ∀ i, k ≤ i → i < k + m → P i
  | 0, k, _, i, h1, h2 => by omega
  | m + 1, k, h, i, h1, h2 => by
    by_cases e : P k
    · by_cases q : i = k
      · rw [q]; exact e
      · rw [fbR_t e] at h
        exact fbR_0 h i (by omega) (by omega)
    · rw [fbR_f e] at h; omega
theorem pvN_mono {d : Nat → Nat} : ∀ a b, a ≤ b → pvN d a ≤ pvN d b := by
  intro a b hab
  induction b with
  | zero => rw [show a = 0 by omega]; exact Nat.le_refl _
  | succ b ihb =>
    by_cases q : a = b + 1
    · rw [q]; exact Nat.le_refl _
    · have := ihb (by omega)
      by_cases z : d b < 1000000
      · rw [(pv_y (lv := fun _ => 0) z).1]; omega
      · rw [(pv_n (lv := fun _ => 0) z).1]; omega
/-- as many rows as stations with a level, at most -/
theorem rg_cnt {ns nl : Nat} {fa fb sl : Nat → Nat} {rs rc : Nat → Int32} (hn : ns ≤ 6) {nr : Nat} (h : ∀ i, i < nr → rgt ns nl fa fb sl rs rc i) : nr ≤ pvN (dist fa fb sl nl) ns := by
  have key : ∀ i, i < nr → ∃ s, s < ns ∧ rc (3 * i) = nI s ∧ dist fa fb sl nl s < 1000000 ∧ i ≤ pvN (dist fa fb sl nl) s := by
    intro i
    induction i with
    | zero => intro hi; obtain ⟨s, h1, h2, h3, -⟩ := h 0 hi; exact ⟨s, h1, h2, h3, by omega⟩
    | succ i ih =>
      intro hi
      obtain ⟨s, h1, h2, h3, h4⟩ := ih (by omega)
      obtain ⟨t, k1, k2, k3, k4, -⟩ := h (i + 1) hi
      refine ⟨t, k1, k2, k3, ?_⟩
      have k5 := k4.resolve_left (by omega)
      rw [show 3 * (i + 1) - 3 = 3 * i by omega, h2] at k5
      have k6 := Int32.lt_iff_toInt_lt.mp k5
      rw [nI_toInt (by omega), nI_toInt (by omega)] at k6
      have m1 := pvN_mono (d := dist fa fb sl nl) (s + 1) t (by omega)
      have m2 := (pv_y (lv := lvl fa fb sl rs nl) h3).1
      omega
  by_cases q : nr = 0
  · omega
  · obtain ⟨s, h1, h2, h3, h4⟩ := key (nr - 1) (by omega)
    have m1 := pvN_mono (d := dist fa fb sl nl) (s + 1) ns (by omega)
    have m2 := (pv_y (lv := lvl fa fb sl rs nl) h3).1
    omega
theorem c_isRight {l : Launch} {dp : Nat} {ns nl np ml nk nw : Nat} {pl fa fb sl pp pm ki fr tg wh bw : Nat → Nat} {rs sn : Nat → Int32} {fl : Nat → Bool} {qw : Nat → Nat → Nat → Nat → Bool} {I : hI} {J : hJ} {lt tx : Option Nat} {nr : Nat} {rc : Nat → Int32} {i : Nat} {Q : hQ} (hG : cG I ns nl np ml nk nw pl fa fb sl pp pm ki fr tg wh bw rs sn fl qw) (hRw : cR I nr rc) (hi : i < nr) (h1 : rgt ns nl fa fb sl rs rc i → Q (some (.int (nI 1))) hSH I J (hRR lt tx)) (h0 : ¬ rgt ns nl fa fb sl rs rc i → Q (some (.int (nI 0))) hSH I J (hRR lt tx)) : HC l mX11_isRightRow (dp + 1) 0 0 [.ref 0, .int (nI i)] hSH I J (hRR lt tx) Q := by
  refine HC.of (by decide +kernel) rfl (Nat.le_of_ble_eq_true rfl) ?_
  show HV l mX11_isRightRow (dp + 1) 0 0 0 [some (.ref 0), some (.int (nI i)), none, none] [] hSH I J (hRR lt tx) Q
  obtain ⟨⟨hN, hdo, hla, hlv⟩, hw, ⟨hnp, hml, hnk, hpt, hsi, hbt⟩, ⟨hn8, hm2, hn24, hpW, hsW⟩, hL⟩ := id hG
  obtain ⟨hns, hnl, hpl, hlg⟩ := id hN
  obtain ⟨hn6, hl12, hW, hp99, hr99⟩ := id hw
  obtain ⟨hnr, hr6, hrc⟩ := id hRw
  refine h_iload_n dX11_isRightRow_0 rfl ?_
  refine h_iconst dX11_isRightRow_1 ci_3 ?_
  refine h_imulN dX11_isRightRow_2 ?_
  refine h_istore_n dX11_isRightRow_3 (Nat.le_of_ble_eq_true rfl) ?_
  refine h_aload_n dX11_isRightRow_4 rfl ?_
  refine h_getR dX11_isRightRow_5 f_X11_47_9 rfl rfl ?_
  refine h_iload_n dX11_isRightRow_8 rfl ?_
  refine h_ialdN (j := 3 * i) dX11_isRightRow_9 rfl (by rw [Nat.mul_comm]) (by omega) rfl (hrc _ (by omega)) ?_
  refine h_istore_n dX11_isRightRow_10 (Nat.le_of_ble_eq_true rfl) ?_
  refine h_aload_n dX11_isRightRow_11 rfl ?_
  refine h_getR dX11_isRightRow_12 f_X11_20_9 rfl rfl ?_
  refine h_iload_n dX11_isRightRow_15 rfl ?_
  refine h_cV1 dX11_isRightRow_16 k2_195 oVX5_hasLevel rfl rfl ?_
  refine c_hasLevel (f := dist fa fb sl nl) hns hn6 hdo (fun s hs e0 b3 => ?_) (fun b3 => ?_)
  · rw [e0]
    refine h_ifeq (tgt := 38) dX11_isRightRow_19 rfl (fun c => absurd c (by decide)) (fun _ => ?_)
    refine h_iload_n dX11_isRightRow_22 rfl ?_
    refine h_ifle (tgt := 40) dX11_isRightRow_23 rfl (fun c_23 => ?_) (fun c_23 => ?_)
    · rw [show (0 : Int32) = nI 0 from rfl, nI_leI (by omega) (by omega)] at c_23
      refine h_aload_n dX11_isRightRow_40 rfl ?_
      refine h_getR dX11_isRightRow_41 f_X11_47_9 rfl rfl ?_
      refine h_iload_n dX11_isRightRow_44 rfl ?_
      refine h_iconst dX11_isRightRow_45 ci_1 ?_
      refine h_iaddN dX11_isRightRow_46 ?_
      refine h_ialdN (j := 3 * i + 1) dX11_isRightRow_47 rfl (by rw [Nat.mul_comm]) (by omega) rfl (hrc _ (by omega)) ?_
      refine h_aload_n dX11_isRightRow_48 rfl ?_
      refine h_getR dX11_isRightRow_49 f_X11_20_9 rfl rfl ?_
      refine h_getR dX11_isRightRow_52 f_X11_151_5 rfl rfl ?_
      refine h_iload_n dX11_isRightRow_55 rfl ?_
      refine h_ialdN (j := s) dX11_isRightRow_56 rfl rfl (by omega) rfl (hlv s hs) ?_
      refine h_icmpne (tgt := 84) dX11_isRightRow_57 rfl (fun c_57 => ?_) (fun c_57 => ?_)
      · refine h_iconst dX11_isRightRow_84 ci_0 ?_
        refine h_zreturn dX11_isRightRow_85 rfl (by decide) ?_
        exact h0 (by
          rintro ⟨t, k1, k2, k3, k4, k5, k6⟩
          rw [e0] at k2
          rw [nI_eq (by omega) (by omega)] at k2
          subst k2
          exact c_57 k5)
      · refine h_aload_n dX11_isRightRow_60 rfl ?_
        refine h_getR dX11_isRightRow_61 f_X11_47_9 rfl rfl ?_
        refine h_iload_n dX11_isRightRow_64 rfl ?_
        refine h_iconst dX11_isRightRow_65 ci_2 ?_
        refine h_iaddN dX11_isRightRow_66 ?_
        refine h_ialdN (j := 3 * i + 2) dX11_isRightRow_67 rfl (by rw [Nat.mul_comm]) (by omega) rfl (hrc _ (by omega)) ?_
        refine h_aload_n dX11_isRightRow_68 rfl ?_
        refine h_getR dX11_isRightRow_69 f_X11_20_9 rfl rfl ?_
        refine h_getR dX11_isRightRow_72 f_X11_154_5 rfl rfl ?_
        refine h_iload_n dX11_isRightRow_75 rfl ?_
        refine h_ialdN (j := s) dX11_isRightRow_76 rfl rfl (by omega) rfl ((hdo s hs).trans (enc_lt b3)) ?_
        refine h_icmpne (tgt := 84) dX11_isRightRow_77 rfl (fun c_77 => ?_) (fun c_77 => ?_)
        · refine h_iconst dX11_isRightRow_84 ci_0 ?_
          refine h_zreturn dX11_isRightRow_85 rfl (by decide) ?_
          exact h0 (by
            rintro ⟨t, k1, k2, k3, k4, k5, k6⟩
            rw [e0] at k2
            rw [nI_eq (by omega) (by omega)] at k2
            subst k2
            exact c_77 k6)
        · refine h_iconst dX11_isRightRow_80 ci_1 ?_
          refine h_goto (tgt := 85) dX11_isRightRow_81 rfl ?_
          refine h_zreturn dX11_isRightRow_85 rfl (by decide) ?_
          exact h1 ⟨s, hs, e0, b3, .inl (by omega), c_57, c_77⟩
    · rw [show (0 : Int32) = nI 0 from rfl, nI_leI (by omega) (by omega)] at c_23
      refine h_iload_n dX11_isRightRow_26 rfl ?_
      refine h_aload_n dX11_isRightRow_27 rfl ?_
      refine h_getR dX11_isRightRow_28 f_X11_47_9 rfl rfl ?_
      refine h_iload_n dX11_isRightRow_31 rfl ?_
      refine h_iconst dX11_isRightRow_32 ci_3 ?_
      refine h_isubN dX11_isRightRow_33 (by omega) ?_
      refine h_ialdN (j := 3 * i - 3) dX11_isRightRow_34 rfl (by rw [Nat.mul_comm]) (by omega) rfl (hrc _ (by omega)) ?_
      refine h_icmpgt (tgt := 40) dX11_isRightRow_35 rfl (fun c_35 => ?_) (fun c_35 => ?_)
      · refine h_aload_n dX11_isRightRow_40 rfl ?_
        refine h_getR dX11_isRightRow_41 f_X11_47_9 rfl rfl ?_
        refine h_iload_n dX11_isRightRow_44 rfl ?_
        refine h_iconst dX11_isRightRow_45 ci_1 ?_
        refine h_iaddN dX11_isRightRow_46 ?_
        refine h_ialdN (j := 3 * i + 1) dX11_isRightRow_47 rfl (by rw [Nat.mul_comm]) (by omega) rfl (hrc _ (by omega)) ?_
        refine h_aload_n dX11_isRightRow_48 rfl ?_
        refine h_getR dX11_isRightRow_49 f_X11_20_9 rfl rfl ?_
        refine h_getR dX11_isRightRow_52 f_X11_151_5 rfl rfl ?_
        refine h_iload_n dX11_isRightRow_55 rfl ?_
        refine h_ialdN (j := s) dX11_isRightRow_56 rfl rfl (by omega) rfl (hlv s hs) ?_
        refine h_icmpne (tgt := 84) dX11_isRightRow_57 rfl (fun c_57 => ?_) (fun c_57 => ?_)
        · refine h_iconst dX11_isRightRow_84 ci_0 ?_
          refine h_zreturn dX11_isRightRow_85 rfl (by decide) ?_
          exact h0 (by
            rintro ⟨t, k1, k2, k3, k4, k5, k6⟩
            rw [e0] at k2
            rw [nI_eq (by omega) (by omega)] at k2
            subst k2
            exact c_57 k5)
        · refine h_aload_n dX11_isRightRow_60 rfl ?_
          refine h_getR dX11_isRightRow_61 f_X11_47_9 rfl rfl ?_
          refine h_iload_n dX11_isRightRow_64 rfl ?_
          refine h_iconst dX11_isRightRow_65 ci_2 ?_
          refine h_iaddN dX11_isRightRow_66 ?_
          refine h_ialdN (j := 3 * i + 2) dX11_isRightRow_67 rfl (by rw [Nat.mul_comm]) (by omega) rfl (hrc _ (by omega)) ?_
          refine h_aload_n dX11_isRightRow_68 rfl ?_
          refine h_getR dX11_isRightRow_69 f_X11_20_9 rfl rfl ?_
          refine h_getR dX11_isRightRow_72 f_X11_154_5 rfl rfl ?_
          refine h_iload_n dX11_isRightRow_75 rfl ?_
          refine h_ialdN (j := s) dX11_isRightRow_76 rfl rfl (by omega) rfl ((hdo s hs).trans (enc_lt b3)) ?_
          refine h_icmpne (tgt := 84) dX11_isRightRow_77 rfl (fun c_77 => ?_) (fun c_77 => ?_)
          · refine h_iconst dX11_isRightRow_84 ci_0 ?_
            refine h_zreturn dX11_isRightRow_85 rfl (by decide) ?_
            exact h0 (by
              rintro ⟨t, k1, k2, k3, k4, k5, k6⟩
              rw [e0] at k2
              rw [nI_eq (by omega) (by omega)] at k2
              subst k2
              exact c_77 k6)
          · refine h_iconst dX11_isRightRow_80 ci_1 ?_
            refine h_goto (tgt := 85) dX11_isRightRow_81 rfl ?_
            refine h_zreturn dX11_isRightRow_85 rfl (by decide) ?_
            exact h1 ⟨s, hs, e0, b3, .inr c_35, c_57, c_77⟩
      · refine h_iconst dX11_isRightRow_38 ci_0 ?_
        refine h_zreturn dX11_isRightRow_39 rfl (by decide) ?_
        exact h0 (by
          rintro ⟨t, k1, k2, k3, k4, k5, k6⟩
          rw [e0] at k2
          rw [nI_eq (by omega) (by omega)] at k2
          subst k2
          exact c_35 (k4.resolve_left (by omega)))
  · refine h_ifeq (tgt := 38) dX11_isRightRow_19 rfl (fun _ => ?_) (fun c => absurd (by decide) c)
    refine h_iconst dX11_isRightRow_38 ci_0 ?_
    refine h_zreturn dX11_isRightRow_39 rfl (by decide) ?_
    exact h0 (by
      rintro ⟨t, k1, k2, k3, k4, k5, k6⟩
      exact b3 t k1 k2 k3)
