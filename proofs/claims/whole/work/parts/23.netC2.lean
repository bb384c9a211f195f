theorem oth_lt {ns nl : Nat} {fa fb sl : Nat → Nat} (hW : legW ns nl fa fb sl) {k s : Nat} (hk : k < nl) : oth fa fb k s < ns := by
  obtain ⟨w1, w2, -⟩ := hW k hk
  unfold oth
  by_cases h : fa k = s
  · rw [if_pos h]; exact w2
  · rw [if_neg h]; exact w1
theorem lsP_oth {ns nl : Nat} {fa fb sl f : Nat → Nat} (hW : legW ns nl fa fb sl) {k s : Nat} (hk : k < nl) : lsP fa fb sl f k s = true ↔ (fa k = s ∨ fb k = s) ∧ f (oth fa fb k s) < 1000000 ∧ f (oth fa fb k s) + sl k = f s := by
  obtain ⟨w1, w2, w3, -⟩ := hW k hk
  rw [lsP_iff]
  unfold oth
  by_cases h : fa k = s
  · rw [if_pos h]
    constructor
    · rintro (⟨q1, q2, q3⟩ | ⟨q1, q2, q3⟩)
      · omega
      · exact ⟨Or.inl h, q2, q3⟩
    · rintro ⟨-, q2, q3⟩; exact Or.inr ⟨h, q2, q3⟩
  · rw [if_neg h]
    constructor
    · rintro (⟨q1, q2, q3⟩ | ⟨q1, q2, q3⟩)
      · exact ⟨Or.inr q1, q2, q3⟩
      · omega
    · rintro ⟨q1 | q1, q2, q3⟩
      · omega
      · exact Or.inl ⟨q1, q2, q3⟩
theorem lsP_no {ns nl : Nat} {fa fb sl f : Nat → Nat} (hW : legW ns nl fa fb sl) {k s : Nat} (hk : k < nl) (h : ¬ ((fa k = s ∨ fb k = s) ∧ f (oth fa fb k s) < 1000000 ∧ f (oth fa fb k s) + sl k = f s)) : lsP fa fb sl f k s = false := by
  cases e : lsP fa fb sl f k s with
  | false => rfl
  | true => exact absurd ((lsP_oth hW hk).mp e) h
theorem lsI_0 {fa fb sl f : Nat → Nat} {nl s : Nat} (h : s = 0 ∨ ¬ f s < 1000000) : lsI fa fb sl f nl s = -9 := by
  unfold lsI lst
  rw [if_pos h]
theorem lsI_some {fa fb sl f : Nat → Nat} {nl s k : Nat} (h : lst fa fb sl f nl s = some k) : lsI fa fb sl f nl s = nI k := by
  unfold lsI
  rw [h]
theorem lsI_is {fa fb sl f : Nat → Nat} {nl s k : Nat} (h0 : ¬ s = 0) (hf : f s < 1000000) (hk : k < nl) (hp : lsP fa fb sl f k s = true) (hj : ∀ j, j < k → lsP fa fb sl f j s = false) : lsI fa fb sl f nl s = nI k := by
  refine lsI_some ?_
  unfold lst
  rw [if_neg (by omega)]
  exact lstN_is hk hp hj
theorem lsI_no {fa fb sl f : Nat → Nat} {nl s : Nat} (hj : ∀ j, j < nl → lsP fa fb sl f j s = false) : lsI fa fb sl f nl s = -9 := by
  unfold lsI lst
  by_cases h : s = 0 ∨ ¬ f s < 1000000
  · rw [if_pos h]
  · rw [if_neg h, lstN_no hj]
theorem lsI_m9 {fa fb sl f : Nat → Nat} {nl s : Nat} (hn : nl ≤ 12) (h : lsI fa fb sl f nl s = -9) : lst fa fb sl f nl s = none := by
  cases e : lst fa fb sl f nl s with
  | none => rfl
  | some k =>
    rw [lsI_some e] at h
    have := (lst_some e).2.2.1
    exact absurd h (nI_nem9 (by omega))
theorem lsI_n9 {fa fb sl f : Nat → Nat} {nl s : Nat} (h : ¬ lsI fa fb sl f nl s = -9) : ∃ k, lst fa fb sl f nl s = some k := by
  cases e : lst fa fb sl f nl s with
  | none => exact absurd (by unfold lsI; rw [e]) h
  | some k => exact ⟨k, rfl⟩
/-- the class's net with what is carried -/
def cNF (I : hI) (B ns nl : Nat) (pl fa fb sl : Nat → Nat) (rs : Nat → Int32) : Prop := cN I B ns nl pl fa fb sl rs ∧ (∀ s, s < ns → I (B + 6) s = enc (dist fa fb sl nl s)) ∧ (∀ s, s < ns → I (B + 7) s = lsI fa fb sl (dist fa fb sl nl) nl s) ∧ ∀ s, s < ns → I (B + 8) s = lvl fa fb sl rs nl s
theorem c_otherEnd_2 {l : Launch} {dp : Nat} {ns nl : Nat} {pl fa fb sl : Nat → Nat} {rs : Nat → Int32} {I : hI} {J : hJ} {lt tx : Option Nat} {k s : Nat} {Q : hQ} (hN : cN I 2 ns nl pl fa fb sl rs) (hw : netW ns nl pl fa fb sl rs) (hk : k < nl) (hs : s < ns) (hQ : Q (some (.int (nI (oth fa fb k s)))) hSH I J (hRR lt tx)) : HC l mX5_otherEnd dp 0 0 [.ref 2, .int (nI k), .int (nI s)] hSH I J (hRR lt tx) Q := by
  refine HC.of (by decide +kernel) rfl (Nat.le_of_ble_eq_true rfl) ?_
  show HV l mX5_otherEnd dp 0 0 0 [some (.ref 2), some (.int (nI k)), some (.int (nI s))] [] hSH I J (hRR lt tx) Q
  obtain ⟨hns, hnl, hpl, hlg⟩ := id hN
  obtain ⟨hn6, hl12, hW, hp99, hr99⟩ := id hw
  have hWk := hW k hk
  refine h_aload_n dX5_otherEnd_0 rfl ?_
  refine h_getR dX5_otherEnd_1 f_X5_22_5 rfl rfl ?_
  refine h_iload_n dX5_otherEnd_4 rfl ?_
  refine h_ialdN (j := k) dX5_otherEnd_5 rfl rfl (by omega) rfl (hlg _ (by omega)).1 ?_
  refine h_iload_n dX5_otherEnd_6 rfl ?_
  refine h_icmpne (tgt := 19) dX5_otherEnd_7 rfl (fun c_7 => ?_) (fun c_7 => ?_)
  · rw [nI_eq (by omega) (by omega)] at c_7
    refine h_aload_n dX5_otherEnd_19 rfl ?_
    refine h_getR dX5_otherEnd_20 f_X5_22_5 rfl rfl ?_
    refine h_iload_n dX5_otherEnd_23 rfl ?_
    refine h_ialdN (j := k) dX5_otherEnd_24 rfl rfl (by omega) rfl (hlg _ (by omega)).1 ?_
    refine h_ireturn dX5_otherEnd_25 rfl ?_
    first
      | (rw [show oth fa fb k s = fb k from if_pos c_7] at hQ; exact hQ)
      | (rw [show oth fa fb k s = fa k from if_neg c_7] at hQ; exact hQ)
  · rw [nI_eq (by omega) (by omega)] at c_7
    refine h_aload_n dX5_otherEnd_10 rfl ?_
    refine h_getR dX5_otherEnd_11 f_X5_25_5 rfl rfl ?_
    refine h_iload_n dX5_otherEnd_14 rfl ?_
    refine h_ialdN (j := k) dX5_otherEnd_15 rfl rfl (by omega) rfl (hlg _ (by omega)).2.1 ?_
    refine h_goto (tgt := 25) dX5_otherEnd_16 rfl ?_
    refine h_ireturn dX5_otherEnd_25 rfl ?_
    first
      | (rw [show oth fa fb k s = fb k from if_pos c_7] at hQ; exact hQ)
      | (rw [show oth fa fb k s = fa k from if_neg c_7] at hQ; exact hQ)
theorem c_findLast_2 {l : Launch} {dp : Nat} {ns nl : Nat} {pl fa fb sl : Nat → Nat} {rs : Nat → Int32} {I : hI} {J : hJ} {lt tx : Option Nat} {f : Nat → Nat} {s : Nat} {Q : hQ} (hN : cN I 2 ns nl pl fa fb sl rs) (hw : netW ns nl pl fa fb sl rs) (hs : s < ns) (hf : ∀ t, t < ns → I 8 t = enc (f t)) (hQ : Q (some (.int (lsI fa fb sl f nl s))) hSH I J (hRR lt tx)) : HC l mX5_findLastLeg (dp + 1) 0 0 [.ref 2, .int (nI s)] hSH I J (hRR lt tx) Q := by
  refine HC.of (by decide +kernel) rfl (Nat.le_of_ble_eq_true rfl) ?_
  obtain ⟨hns, hnl, hpl, hlg⟩ := id hN
  obtain ⟨hn6, hl12, hW, hp99, hr99⟩ := id hw
  have Lo : ∀ (m k : Nat), nl - k < m → k ≤ nl → (∀ j, j < k → lsP fa fb sl f j s = false) → ¬ s = 0 → f s < 1000000 → ∀ z3 z4, HV l mX5_findLastLeg (dp + 1) 0 0 19 [some (.ref 2), some (.int (nI s)), some (.int (nI k)), z3, z4] [] hSH I J (hRR lt tx) Q := by
    intro m
    induction m with
    | zero => intro k h1 h2 hj h0 hfs z3 z4; omega
    | succ m ih =>
      intro k h1 h2 hj h0 hfs z3 z4
      refine h_iload_n dX5_findLastLeg_19 rfl ?_
      refine h_aload_n dX5_findLastLeg_20 rfl ?_
      refine h_getI dX5_findLastLeg_21 f_X5_19_5 rfl hnl ?_
      refine h_icmpge (tgt := 107) dX5_findLastLeg_24 rfl (fun c_24 => ?_) (fun c_24 => ?_)
      · rw [nI_leI (by omega) (by omega)] at c_24
        refine h_bipush dX5_findLastLeg_107 cb_m9 ?_
        refine h_ireturn dX5_findLastLeg_109 rfl ?_
        rw [lsI_no (fun j hj2 => hj j (by omega))] at hQ
        exact hQ
      · rw [nI_leI (by omega) (by omega)] at c_24
        have hWk := hW k (by omega)
        have ho := oth_lt hW (k := k) (s := s) (by omega)
        refine h_aload_n dX5_findLastLeg_27 rfl ?_
        refine h_getR dX5_findLastLeg_28 f_X5_22_5 rfl rfl ?_
        refine h_iload_n dX5_findLastLeg_31 rfl ?_
        refine h_ialdN (j := k) dX5_findLastLeg_32 rfl rfl (by omega) rfl (hlg _ (by omega)).1 ?_
        refine h_iload_n dX5_findLastLeg_33 rfl ?_
        refine h_icmpeq (tgt := 47) dX5_findLastLeg_34 rfl (fun c_34 => ?_) (fun c_34 => ?_)
        · rw [nI_eq (by omega) (by omega)] at c_34
          refine h_iconst dX5_findLastLeg_47 ci_1 ?_
          refine h_goto (tgt := 52) dX5_findLastLeg_48 rfl ?_
          refine h_istore_n dX5_findLastLeg_52 (Nat.le_of_ble_eq_true rfl) ?_
          refine h_aload_n dX5_findLastLeg_53 rfl ?_
          refine h_iload_n dX5_findLastLeg_54 rfl ?_
          refine h_iload_n dX5_findLastLeg_55 rfl ?_
          refine h_cV2 dX5_findLastLeg_56 k2_176 oVX5_otherEnd rfl rfl ?_
          refine c_otherEnd_2 hN hw (by omega) hs ?_
          refine h_istore dX5_findLastLeg_59 (Nat.le_of_ble_eq_true rfl) ?_
          refine h_iload_n dX5_findLastLeg_61 rfl ?_
          refine h_ifeq (tgt := 101) dX5_findLastLeg_62 rfl (fun c => absurd c (by decide)) (fun _ => ?_)
          refine h_aload_n dX5_findLastLeg_65 rfl ?_
          refine h_getR dX5_findLastLeg_66 f_X5_34_5 rfl rfl ?_
          refine h_iload dX5_findLastLeg_69 rfl ?_
          refine h_ialdN (j := oth fa fb k s) dX5_findLastLeg_71 rfl rfl (by omega) rfl (hf _ (by omega)) ?_
          refine h_iconst dX5_findLastLeg_72 ci_m1 ?_
          refine h_icmpeq (tgt := 101) dX5_findLastLeg_73 rfl (fun c_73 => ?_) (fun c_73 => ?_)
          · have c_73 := enc_m1 c_73
            refine h_iinc (v := nI (k + 1)) dX5_findLastLeg_101 rfl (nI_1 _) (Nat.le_of_ble_eq_true rfl) ?_
            refine h_goto (tgt := 19) dX5_findLastLeg_104 rfl ?_
            refine ih (k + 1) (by omega) (by omega) (fun j hj2 => ?_) h0 hfs _ _
            by_cases e : j = k
            · subst e
              refine lsP_no hW (by omega) ?_
              rintro ⟨a | a, b, c⟩ <;> omega
            · exact hj j (by omega)
          · have hfo := enc_n c_73
            refine h_aload_n dX5_findLastLeg_76 rfl ?_
            refine h_getR dX5_findLastLeg_77 f_X5_34_5 rfl rfl ?_
            refine h_iload dX5_findLastLeg_80 rfl ?_
            refine h_ialdN (j := oth fa fb k s) dX5_findLastLeg_82 rfl rfl (by omega) rfl ((hf _ ho).trans (enc_lt hfo)) ?_
            refine h_aload_n dX5_findLastLeg_83 rfl ?_
            refine h_getR dX5_findLastLeg_84 f_X5_31_5 rfl rfl ?_
            refine h_iload_n dX5_findLastLeg_87 rfl ?_
            refine h_ialdN (j := k) dX5_findLastLeg_88 rfl rfl (by omega) rfl (hlg _ (by omega)).2.2.2 ?_
            refine h_iaddN dX5_findLastLeg_89 ?_
            refine h_aload_n dX5_findLastLeg_90 rfl ?_
            refine h_getR dX5_findLastLeg_91 f_X5_34_5 rfl rfl ?_
            refine h_iload_n dX5_findLastLeg_94 rfl ?_
            refine h_ialdN (j := s) dX5_findLastLeg_95 rfl rfl (by omega) rfl ((hf s hs).trans (enc_lt hfs)) ?_
            refine h_icmpne (tgt := 101) dX5_findLastLeg_96 rfl (fun c_96 => ?_) (fun c_96 => ?_)
            · rw [nI_eq (by omega) (by omega)] at c_96
              refine h_iinc (v := nI (k + 1)) dX5_findLastLeg_101 rfl (nI_1 _) (Nat.le_of_ble_eq_true rfl) ?_
              refine h_goto (tgt := 19) dX5_findLastLeg_104 rfl ?_
              refine ih (k + 1) (by omega) (by omega) (fun j hj2 => ?_) h0 hfs _ _
              by_cases e : j = k
              · subst e
                refine lsP_no hW (by omega) ?_
                rintro ⟨a | a, b, c⟩ <;> omega
              · exact hj j (by omega)
            · rw [nI_eq (by omega) (by omega)] at c_96
              refine h_iload_n dX5_findLastLeg_99 rfl ?_
              refine h_ireturn dX5_findLastLeg_100 rfl ?_
              rw [lsI_is h0 hfs (k := k) (by omega) ((lsP_oth hW (by omega)).mpr ⟨by omega, hfo, c_96⟩) hj] at hQ
              exact hQ
        · rw [nI_eq (by omega) (by omega)] at c_34
          refine h_aload_n dX5_findLastLeg_37 rfl ?_
          refine h_getR dX5_findLastLeg_38 f_X5_25_5 rfl rfl ?_
          refine h_iload_n dX5_findLastLeg_41 rfl ?_
          refine h_ialdN (j := k) dX5_findLastLeg_42 rfl rfl (by omega) rfl (hlg _ (by omega)).2.1 ?_
          refine h_iload_n dX5_findLastLeg_43 rfl ?_
          refine h_icmpne (tgt := 51) dX5_findLastLeg_44 rfl (fun c_44 => ?_) (fun c_44 => ?_)
          · rw [nI_eq (by omega) (by omega)] at c_44
            refine h_iconst dX5_findLastLeg_51 ci_0 ?_
            refine h_istore_n dX5_findLastLeg_52 (Nat.le_of_ble_eq_true rfl) ?_
            refine h_aload_n dX5_findLastLeg_53 rfl ?_
            refine h_iload_n dX5_findLastLeg_54 rfl ?_
            refine h_iload_n dX5_findLastLeg_55 rfl ?_
            refine h_cV2 dX5_findLastLeg_56 k2_176 oVX5_otherEnd rfl rfl ?_
            refine c_otherEnd_2 hN hw (by omega) hs ?_
            refine h_istore dX5_findLastLeg_59 (Nat.le_of_ble_eq_true rfl) ?_
            refine h_iload_n dX5_findLastLeg_61 rfl ?_
            refine h_ifeq (tgt := 101) dX5_findLastLeg_62 rfl (fun _ => ?_) (fun c => absurd (by decide) c)
            refine h_iinc (v := nI (k + 1)) dX5_findLastLeg_101 rfl (nI_1 _) (Nat.le_of_ble_eq_true rfl) ?_
            refine h_goto (tgt := 19) dX5_findLastLeg_104 rfl ?_
            refine ih (k + 1) (by omega) (by omega) (fun j hj2 => ?_) h0 hfs _ _
            by_cases e : j = k
            · subst e
              refine lsP_no hW (by omega) ?_
              rintro ⟨a | a, b, c⟩ <;> omega
            · exact hj j (by omega)
          · rw [nI_eq (by omega) (by omega)] at c_44
            refine h_iconst dX5_findLastLeg_47 ci_1 ?_
            refine h_goto (tgt := 52) dX5_findLastLeg_48 rfl ?_
            refine h_istore_n dX5_findLastLeg_52 (Nat.le_of_ble_eq_true rfl) ?_
            refine h_aload_n dX5_findLastLeg_53 rfl ?_
            refine h_iload_n dX5_findLastLeg_54 rfl ?_
            refine h_iload_n dX5_findLastLeg_55 rfl ?_
            refine h_cV2 dX5_findLastLeg_56 k2_176 oVX5_otherEnd rfl rfl ?_
            refine c_otherEnd_2 hN hw (by omega) hs ?_
            refine h_istore dX5_findLastLeg_59 (Nat.le_of_ble_eq_true rfl) ?_
            refine h_iload_n dX5_findLastLeg_61 rfl ?_
            refine h_ifeq (tgt := 101) dX5_findLastLeg_62 rfl (fun c => absurd c (by decide)) (fun _ => ?_)
            refine h_aload_n dX5_findLastLeg_65 rfl ?_
            refine h_getR dX5_findLastLeg_66 f_X5_34_5 rfl rfl ?_
            refine h_iload dX5_findLastLeg_69 rfl ?_
            refine h_ialdN (j := oth fa fb k s) dX5_findLastLeg_71 rfl rfl (by omega) rfl (hf _ (by omega)) ?_
            refine h_iconst dX5_findLastLeg_72 ci_m1 ?_
            refine h_icmpeq (tgt := 101) dX5_findLastLeg_73 rfl (fun c_73 => ?_) (fun c_73 => ?_)
            · have c_73 := enc_m1 c_73
              refine h_iinc (v := nI (k + 1)) dX5_findLastLeg_101 rfl (nI_1 _) (Nat.le_of_ble_eq_true rfl) ?_
              refine h_goto (tgt := 19) dX5_findLastLeg_104 rfl ?_
              refine ih (k + 1) (by omega) (by omega) (fun j hj2 => ?_) h0 hfs _ _
              by_cases e : j = k
              · subst e
                refine lsP_no hW (by omega) ?_
                rintro ⟨a | a, b, c⟩ <;> omega
              · exact hj j (by omega)
            · have hfo := enc_n c_73
              refine h_aload_n dX5_findLastLeg_76 rfl ?_
              refine h_getR dX5_findLastLeg_77 f_X5_34_5 rfl rfl ?_
              refine h_iload dX5_findLastLeg_80 rfl ?_
              refine h_ialdN (j := oth fa fb k s) dX5_findLastLeg_82 rfl rfl (by omega) rfl ((hf _ ho).trans (enc_lt hfo)) ?_
              refine h_aload_n dX5_findLastLeg_83 rfl ?_
              refine h_getR dX5_findLastLeg_84 f_X5_31_5 rfl rfl ?_
              refine h_iload_n dX5_findLastLeg_87 rfl ?_
              refine h_ialdN (j := k) dX5_findLastLeg_88 rfl rfl (by omega) rfl (hlg _ (by omega)).2.2.2 ?_
              refine h_iaddN dX5_findLastLeg_89 ?_
              refine h_aload_n dX5_findLastLeg_90 rfl ?_
              refine h_getR dX5_findLastLeg_91 f_X5_34_5 rfl rfl ?_
              refine h_iload_n dX5_findLastLeg_94 rfl ?_
              refine h_ialdN (j := s) dX5_findLastLeg_95 rfl rfl (by omega) rfl ((hf s hs).trans (enc_lt hfs)) ?_
              refine h_icmpne (tgt := 101) dX5_findLastLeg_96 rfl (fun c_96 => ?_) (fun c_96 => ?_)
              · rw [nI_eq (by omega) (by omega)] at c_96
                refine h_iinc (v := nI (k + 1)) dX5_findLastLeg_101 rfl (nI_1 _) (Nat.le_of_ble_eq_true rfl) ?_
                refine h_goto (tgt := 19) dX5_findLastLeg_104 rfl ?_
                refine ih (k + 1) (by omega) (by omega) (fun j hj2 => ?_) h0 hfs _ _
                by_cases e : j = k
                · subst e
                  refine lsP_no hW (by omega) ?_
                  rintro ⟨a | a, b, c⟩ <;> omega
                · exact hj j (by omega)
              · rw [nI_eq (by omega) (by omega)] at c_96
                refine h_iload_n dX5_findLastLeg_99 rfl ?_
                refine h_ireturn dX5_findLastLeg_100 rfl ?_
                rw [lsI_is h0 hfs (k := k) (by omega) ((lsP_oth hW (by omega)).mpr ⟨by omega, hfo, c_96⟩) hj] at hQ
                exact hQ
  show HV l mX5_findLastLeg (dp + 1) 0 0 0 [some (.ref 2), some (.int (nI s)), none, none, none] [] hSH I J (hRR lt tx) Q
  refine h_iload_n dX5_findLastLeg_0 rfl ?_
  refine h_ifeq (tgt := 14) dX5_findLastLeg_1 rfl (fun c_1 => ?_) (fun c_1 => ?_)
  · rw [show (0 : Int32) = nI 0 from rfl, nI_eq (by omega) (by omega)] at c_1
    refine h_bipush dX5_findLastLeg_14 cb_m9 ?_
    refine h_ireturn dX5_findLastLeg_16 rfl ?_
    rw [lsI_0 (by first | exact Or.inl c_1 | exact Or.inr (enc_m1 c_11))] at hQ
    exact hQ
  · rw [show (0 : Int32) = nI 0 from rfl, nI_eq (by omega) (by omega)] at c_1
    refine h_aload_n dX5_findLastLeg_4 rfl ?_
    refine h_getR dX5_findLastLeg_5 f_X5_34_5 rfl rfl ?_
    refine h_iload_n dX5_findLastLeg_8 rfl ?_
    refine h_ialdN (j := s) dX5_findLastLeg_9 rfl rfl (by omega) rfl (hf _ (by omega)) ?_
    refine h_iconst dX5_findLastLeg_10 ci_m1 ?_
    refine h_icmpne (tgt := 17) dX5_findLastLeg_11 rfl (fun c_11 => ?_) (fun c_11 => ?_)
    · refine h_iconst dX5_findLastLeg_17 ci_0 ?_
      refine h_istore_n dX5_findLastLeg_18 (Nat.le_of_ble_eq_true rfl) ?_
      exact Lo (nl + 1) 0 (by omega) (by omega) (fun j hj => by omega) c_1 (enc_n c_11) _ _
    · refine h_bipush dX5_findLastLeg_14 cb_m9 ?_
      refine h_ireturn dX5_findLastLeg_16 rfl ?_
      rw [lsI_0 (by first | exact Or.inl c_1 | exact Or.inr (enc_m1 c_11))] at hQ
      exact hQ
theorem c_carried_2 {l : Launch} {dp : Nat} {ns nl : Nat} {pl fa fb sl : Nat → Nat} {rs : Nat → Int32} {I : hI} {J : hJ} {lt tx : Option Nat} {f : Nat → Nat} {s : Nat} {Q : hQ} (hN : cN I 2 ns nl pl fa fb sl rs) (hw : netW ns nl pl fa fb sl rs) (hs : s < ns) (hla : ∀ t, t < ns → I 9 t = lsI fa fb sl f nl t) (hQ : Q (some (.int (lev fa fb sl f rs nl ns s))) hSH I J (hRR lt tx)) : HC l mX5_carriedLevel (dp + 1) 0 0 [.ref 2, .int (nI s)] hSH I J (hRR lt tx) Q := by
  refine HC.of (by decide +kernel) rfl (Nat.le_of_ble_eq_true rfl) ?_
  obtain ⟨hns, hnl, hpl, hlg⟩ := id hN
  obtain ⟨hn6, hl12, hW, hp99, hr99⟩ := id hw
  have Lo : ∀ (m q a : Nat) (v : Int32), ns - q < m → q ≤ ns → a < ns → v + lev fa fb sl f rs nl (ns - q) a = lev fa fb sl f rs nl ns s → ∀ z5, HV l mX5_carriedLevel (dp + 1) 0 0 7 [some (.ref 2), some (.int (nI s)), some (.int v), some (.int (nI a)), some (.int (nI q)), z5] [] hSH I J (hRR lt tx) Q := by
    intro m
    induction m with
    | zero => intro q a v h1 h2 ha hv z5; omega
    | succ m ih =>
      intro q a v h1 h2 ha hv z5
      refine h_iload dX5_carriedLevel_7 rfl ?_
      refine h_aload_n dX5_carriedLevel_9 rfl ?_
      refine h_getI dX5_carriedLevel_10 f_X5_9_5 rfl hns ?_
      refine h_icmpge (tgt := 81) dX5_carriedLevel_13 rfl (fun c_13 => ?_) (fun c_13 => ?_)
      · rw [nI_leI (by omega) (by omega)] at c_13
        refine h_iload_n dX5_carriedLevel_81 rfl ?_
        refine h_ireturn dX5_carriedLevel_82 rfl ?_
        first
          | (have e : lst fa fb sl f nl a = none := lsI_m9 hl12 c_24
             obtain ⟨y, hy⟩ : ∃ y, ns - q = y + 1 := ⟨ns - q - 1, by omega⟩
             have e2 : lev fa fb sl f rs nl (ns - q) a = 0 := by rw [hy]; unfold lev; rw [e]
             rw [e2, Int32.add_zero] at hv
             rw [hv]; exact hQ)
          | (have e2 : lev fa fb sl f rs nl (ns - q) a = 0 := by rw [show ns - q = 0 by omega]; rfl
             rw [e2, Int32.add_zero] at hv
             rw [hv]; exact hQ)
      · rw [nI_leI (by omega) (by omega)] at c_13
        refine h_aload_n dX5_carriedLevel_16 rfl ?_
        refine h_getR dX5_carriedLevel_17 f_X5_37_5 rfl rfl ?_
        refine h_iload_n dX5_carriedLevel_20 rfl ?_
        refine h_ialdN (j := a) dX5_carriedLevel_21 rfl rfl (by omega) rfl (hla _ (by omega)) ?_
        refine h_bipush dX5_carriedLevel_22 cb_m9 ?_
        refine h_icmpeq (tgt := 81) dX5_carriedLevel_24 rfl (fun c_24 => ?_) (fun c_24 => ?_)
        · refine h_iload_n dX5_carriedLevel_81 rfl ?_
          refine h_ireturn dX5_carriedLevel_82 rfl ?_
          first
            | (have e : lst fa fb sl f nl a = none := lsI_m9 hl12 c_24
               obtain ⟨y, hy⟩ : ∃ y, ns - q = y + 1 := ⟨ns - q - 1, by omega⟩
               have e2 : lev fa fb sl f rs nl (ns - q) a = 0 := by rw [hy]; unfold lev; rw [e]
               rw [e2, Int32.add_zero] at hv
               rw [hv]; exact hQ)
            | (have e2 : lev fa fb sl f rs nl (ns - q) a = 0 := by rw [show ns - q = 0 by omega]; rfl
               rw [e2, Int32.add_zero] at hv
               rw [hv]; exact hQ)
        · obtain ⟨k, hk⟩ := lsI_n9 c_24
          obtain ⟨-, -, hkl, hkp⟩ := lst_some hk
          have ho := oth_lt hW (k := k) (s := a) hkl
          have hWk := hW k hkl
          refine h_aload_n dX5_carriedLevel_27 rfl ?_
          refine h_getR dX5_carriedLevel_28 f_X5_37_5 rfl rfl ?_
          refine h_iload_n dX5_carriedLevel_31 rfl ?_
          refine h_ialdN (j := a) dX5_carriedLevel_32 rfl rfl (by omega) rfl ((hla a ha).trans (lsI_some hk)) ?_
          refine h_istore dX5_carriedLevel_33 (Nat.le_of_ble_eq_true rfl) ?_
          refine h_iload_n dX5_carriedLevel_35 rfl ?_
          refine h_aload_n dX5_carriedLevel_36 rfl ?_
          refine h_getR dX5_carriedLevel_37 f_X5_25_5 rfl rfl ?_
          refine h_iload dX5_carriedLevel_40 rfl ?_
          refine h_ialdN (j := k) dX5_carriedLevel_42 rfl rfl (by omega) rfl (hlg _ (by omega)).2.1 ?_
          refine h_iload_n dX5_carriedLevel_43 rfl ?_
          refine h_icmpne (tgt := 57) dX5_carriedLevel_44 rfl (fun c_44 => ?_) (fun c_44 => ?_)
          · rw [nI_eq (by omega) (by omega)] at c_44
            refine h_aload_n dX5_carriedLevel_57 rfl ?_
            refine h_getR dX5_carriedLevel_58 f_X5_28_5 rfl rfl ?_
            refine h_iload dX5_carriedLevel_61 rfl ?_
            refine h_ialdN (j := k) dX5_carriedLevel_63 rfl rfl (by omega) rfl (hlg _ (by omega)).2.2.1 ?_
            refine h_ineg dX5_carriedLevel_64 ?_
            refine h_iadd dX5_carriedLevel_65 ?_
            refine h_istore_n dX5_carriedLevel_66 (Nat.le_of_ble_eq_true rfl) ?_
            refine h_aload_n dX5_carriedLevel_67 rfl ?_
            refine h_iload dX5_carriedLevel_68 rfl ?_
            refine h_iload_n dX5_carriedLevel_70 rfl ?_
            refine h_cV2 dX5_carriedLevel_71 k2_176 oVX5_otherEnd rfl rfl ?_
            refine c_otherEnd_2 hN hw (by omega) ha ?_
            refine h_istore_n dX5_carriedLevel_74 (Nat.le_of_ble_eq_true rfl) ?_
            refine h_iinc (v := nI (q + 1)) dX5_carriedLevel_75 rfl (nI_1 _) (Nat.le_of_ble_eq_true rfl) ?_
            refine h_goto (tgt := 7) dX5_carriedLevel_78 rfl ?_
            refine ih (q + 1) (oth fa fb k a) _ (by omega) (by omega) ho ?_ _
            rw [← hv, show ns - q = (ns - (q + 1)) + 1 by omega]
            show _ = v + (match lst fa fb sl f nl a with | none => 0 | some k => (if fb k = a then rs k else - rs k) + lev fa fb sl f rs nl (ns - (q + 1)) (oth fa fb k a))
            rw [hk]
            first | (show _ = v + ((if fb k = a then rs k else - rs k) + _); rw [if_pos c_44, Int32.add_assoc]; done) | (show _ = v + ((if fb k = a then rs k else - rs k) + _); rw [if_neg c_44, Int32.add_assoc])
          · rw [nI_eq (by omega) (by omega)] at c_44
            refine h_aload_n dX5_carriedLevel_47 rfl ?_
            refine h_getR dX5_carriedLevel_48 f_X5_28_5 rfl rfl ?_
            refine h_iload dX5_carriedLevel_51 rfl ?_
            refine h_ialdN (j := k) dX5_carriedLevel_53 rfl rfl (by omega) rfl (hlg _ (by omega)).2.2.1 ?_
            refine h_goto (tgt := 65) dX5_carriedLevel_54 rfl ?_
            refine h_iadd dX5_carriedLevel_65 ?_
            refine h_istore_n dX5_carriedLevel_66 (Nat.le_of_ble_eq_true rfl) ?_
            refine h_aload_n dX5_carriedLevel_67 rfl ?_
            refine h_iload dX5_carriedLevel_68 rfl ?_
            refine h_iload_n dX5_carriedLevel_70 rfl ?_
            refine h_cV2 dX5_carriedLevel_71 k2_176 oVX5_otherEnd rfl rfl ?_
            refine c_otherEnd_2 hN hw (by omega) ha ?_
            refine h_istore_n dX5_carriedLevel_74 (Nat.le_of_ble_eq_true rfl) ?_
            refine h_iinc (v := nI (q + 1)) dX5_carriedLevel_75 rfl (nI_1 _) (Nat.le_of_ble_eq_true rfl) ?_
            refine h_goto (tgt := 7) dX5_carriedLevel_78 rfl ?_
            refine ih (q + 1) (oth fa fb k a) _ (by omega) (by omega) ho ?_ _
            rw [← hv, show ns - q = (ns - (q + 1)) + 1 by omega]
            show _ = v + (match lst fa fb sl f nl a with | none => 0 | some k => (if fb k = a then rs k else - rs k) + lev fa fb sl f rs nl (ns - (q + 1)) (oth fa fb k a))
            rw [hk]
            first | (show _ = v + ((if fb k = a then rs k else - rs k) + _); rw [if_pos c_44, Int32.add_assoc]; done) | (show _ = v + ((if fb k = a then rs k else - rs k) + _); rw [if_neg c_44, Int32.add_assoc])
  show HV l mX5_carriedLevel (dp + 1) 0 0 0 [some (.ref 2), some (.int (nI s)), none, none, none, none] [] hSH I J (hRR lt tx) Q
  refine h_iconst dX5_carriedLevel_0 ci_0 ?_
  refine h_istore_n dX5_carriedLevel_1 (Nat.le_of_ble_eq_true rfl) ?_
  refine h_iload_n dX5_carriedLevel_2 rfl ?_
  refine h_istore_n dX5_carriedLevel_3 (Nat.le_of_ble_eq_true rfl) ?_
  refine h_iconst dX5_carriedLevel_4 ci_0 ?_
  refine h_istore dX5_carriedLevel_5 (Nat.le_of_ble_eq_true rfl) ?_
  exact Lo (ns + 1) 0 s _ (by omega) (by omega) hs (by rw [show nI 0 = (0 : Int32) from rfl, Int32.zero_add]; rfl) _
theorem c_carry_2 {l : Launch} {dp : Nat} {ns nl : Nat} {pl fa fb sl : Nat → Nat} {rs : Nat → Int32} {I : hI} {J : hJ} {lt tx : Option Nat} {Q : hQ} (hN : cN I 2 ns nl pl fa fb sl rs) (hw : netW ns nl pl fa fb sl rs) (hQ : ∀ g1 g2 g3, (∀ s, s < ns → g1 s = enc (dist fa fb sl nl s)) → (∀ s, s < ns → g2 s = lsI fa fb sl (dist fa fb sl nl) nl s) → (∀ s, s < ns → g3 s = lvl fa fb sl rs nl s) → Q none hSH (upA (upA (upA I 8 g1) 9 g2) 10 g3) J (hRR lt tx)) : HC l mX5_carry (dp + 2) 0 0 [.ref 2] hSH I J (hRR lt tx) Q := by
  refine HC.of (by decide +kernel) rfl (Nat.le_of_ble_eq_true rfl) ?_
  obtain ⟨hns, hnl, hpl, hlg⟩ := id hN
  obtain ⟨hn6, hl12, hW, hp99, hr99⟩ := id hw
  have L3 : ∀ (m s : Nat) (g1 g2 g3 : Nat → Int32), ns - s < m → s ≤ ns → (∀ s, s < ns → g1 s = enc (dist fa fb sl nl s)) → (∀ s, s < ns → g2 s = lsI fa fb sl (dist fa fb sl nl) nl s) → (∀ t, t < s → g3 t = lvl fa fb sl rs nl t) → HV l mX5_carry (dp + 2) 0 0 39 [some (.ref 2), some (.int (nI s))] [] hSH (upA (upA (upA I 8 g1) 9 g2) 10 g3) J (hRR lt tx) Q := by
    intro m
    induction m with
    | zero => intro s g1 g2 g3 h1 h2 e1 e2 e3; omega
    | succ m ih =>
      intro s g1 g2 g3 h1 h2 e1 e2 e3
      refine h_iload_n dX5_carry_39 rfl ?_
      refine h_aload_n dX5_carry_40 rfl ?_
      refine h_getI dX5_carry_41 f_X5_9_5 rfl hns ?_
      refine h_icmpge (tgt := 64) dX5_carry_44 rfl (fun c_44 => ?_) (fun c_44 => ?_)
      · rw [nI_leI (by omega) (by omega)] at c_44
        refine h_return dX5_carry_64 rfl ?_
        exact hQ g1 g2 g3 e1 e2 (fun t ht => e3 t (by omega))
      · rw [nI_leI (by omega) (by omega)] at c_44
        refine h_aload_n dX5_carry_47 rfl ?_
        refine h_getR dX5_carry_48 f_X5_40_5 rfl rfl ?_
        refine h_iload_n dX5_carry_51 rfl ?_
        refine h_aload_n dX5_carry_52 rfl ?_
        refine h_iload_n dX5_carry_53 rfl ?_
        refine h_cV1 dX5_carry_54 k2_180 oVX5_carriedLevel rfl rfl ?_
        refine c_carried_2 (f := dist fa fb sl nl) hN hw (by omega) e2 ?_
        refine h_iastN (j := s) dX5_carry_57 rfl rfl (by omega) rfl ?_
        refine h_iinc (v := nI (s + 1)) dX5_carry_58 rfl (nI_1 _) (Nat.le_of_ble_eq_true rfl) ?_
        refine h_goto (tgt := 39) dX5_carry_61 rfl ?_
        rw [upA_I]
        exact ih (s + 1) g1 g2 _ (by omega) (by omega) e1 e2 (fun t ht => by
          by_cases e : t = s
          · subst e; rw [upd_s]; exact (lev_after hW (by omega) 6 hn6).symm
          · rw [upd_n _ _ e]; exact e3 t (by omega))
  have L2 : ∀ (m s : Nat) (g1 g2 : Nat → Int32), ns - s < m → s ≤ ns → (∀ s, s < ns → g1 s = enc (dist fa fb sl nl s)) → (∀ t, t < s → g2 t = lsI fa fb sl (dist fa fb sl nl) nl t) → HV l mX5_carry (dp + 2) 0 0 12 [some (.ref 2), some (.int (nI s))] [] hSH (upA (upA I 8 g1) 9 g2) J (hRR lt tx) Q := by
    intro m
    induction m with
    | zero => intro s g1 g2 h1 h2 e1 e2; omega
    | succ m ih =>
      intro s g1 g2 h1 h2 e1 e2
      refine h_iload_n dX5_carry_12 rfl ?_
      refine h_aload_n dX5_carry_13 rfl ?_
      refine h_getI dX5_carry_14 f_X5_9_5 rfl hns ?_
      refine h_icmpge (tgt := 37) dX5_carry_17 rfl (fun c_17 => ?_) (fun c_17 => ?_)
      · rw [nI_leI (by omega) (by omega)] at c_17
        refine h_iconst dX5_carry_37 ci_0 ?_
        refine h_istore_n dX5_carry_38 (Nat.le_of_ble_eq_true rfl) ?_
        have h0 := L3 (ns + 1) 0 g1 g2 (upA (upA I 8 g1) 9 g2 10) (by omega) (by omega) e1 (fun t ht => e2 t (by omega)) (fun t ht => by omega)
        rw [upA_id] at h0
        exact h0
      · rw [nI_leI (by omega) (by omega)] at c_17
        refine h_aload_n dX5_carry_20 rfl ?_
        refine h_getR dX5_carry_21 f_X5_37_5 rfl rfl ?_
        refine h_iload_n dX5_carry_24 rfl ?_
        refine h_aload_n dX5_carry_25 rfl ?_
        refine h_iload_n dX5_carry_26 rfl ?_
        refine h_cV1 dX5_carry_27 k2_172 oVX5_findLastLeg rfl rfl ?_
        refine c_findLast_2 (f := dist fa fb sl nl) hN hw (by omega) e1 ?_
        refine h_iastN (j := s) dX5_carry_30 rfl rfl (by omega) rfl ?_
        refine h_iinc (v := nI (s + 1)) dX5_carry_31 rfl (nI_1 _) (Nat.le_of_ble_eq_true rfl) ?_
        refine h_goto (tgt := 12) dX5_carry_34 rfl ?_
        rw [upA_I]
        exact ih (s + 1) g1 _ (by omega) (by omega) e1 (fun t ht => by
          by_cases e : t = s
          · subst e; rw [upd_s]
          · rw [upd_n _ _ e]; exact e2 t (by omega))
  show HV l mX5_carry (dp + 2) 0 0 0 [some (.ref 2), none] [] hSH I J (hRR lt tx) Q
  refine h_aload_n dX5_carry_0 rfl ?_
  refine h_aload_n dX5_carry_1 rfl ?_
  refine h_getR dX5_carry_2 f_X5_34_5 rfl rfl ?_
  refine h_bipush dX5_carry_5 cb_m9 ?_
  refine h_cV2 dX5_carry_7 k2_165 oVX5_spread rfl rfl ?_
  refine c_spread_2_8 hN hw (fun g1 hg1 => ?_)
  have e1 : ∀ s, s < ns → g1 s = enc (dist fa fb sl nl s) := fun s hs => by rw [hg1 s hs, slE_m9 hl12, dist_eq hW hn6 (Nat.le_refl _)]
  refine h_iconst dX5_carry_10 ci_0 ?_
  refine h_istore_n dX5_carry_11 (Nat.le_of_ble_eq_true rfl) ?_
  have h0 := L2 (ns + 1) 0 g1 (upA I 8 g1 9) (by omega) (by omega) e1 (fun t ht => by omega)
  rw [upA_id] at h0
  exact h0
theorem c_otherEnd_29 {l : Launch} {dp : Nat} {ns nl : Nat} {pl fa fb sl : Nat → Nat} {rs : Nat → Int32} {I : hI} {J : hJ} {lt tx : Option Nat} {k s : Nat} {Q : hQ} (hN : cN I 29 ns nl pl fa fb sl rs) (hw : netW ns nl pl fa fb sl rs) (hk : k < nl) (hs : s < ns) (hQ : Q (some (.int (nI (oth fa fb k s)))) hSH I J (hRR lt tx)) : HC l mX5_otherEnd dp 0 0 [.ref 29, .int (nI k), .int (nI s)] hSH I J (hRR lt tx) Q := by
  refine HC.of (by decide +kernel) rfl (Nat.le_of_ble_eq_true rfl) ?_
  show HV l mX5_otherEnd dp 0 0 0 [some (.ref 29), some (.int (nI k)), some (.int (nI s))] [] hSH I J (hRR lt tx) Q
  obtain ⟨hns, hnl, hpl, hlg⟩ := id hN
  obtain ⟨hn6, hl12, hW, hp99, hr99⟩ := id hw
  have hWk := hW k hk
  refine h_aload_n dX5_otherEnd_0 rfl ?_
  refine h_getR dX5_otherEnd_1 f_X5_22_5 rfl rfl ?_
  refine h_iload_n dX5_otherEnd_4 rfl ?_
  refine h_ialdN (j := k) dX5_otherEnd_5 rfl rfl (by omega) rfl (hlg _ (by omega)).1 ?_
  refine h_iload_n dX5_otherEnd_6 rfl ?_
  refine h_icmpne (tgt := 19) dX5_otherEnd_7 rfl (fun c_7 => ?_) (fun c_7 => ?_)
  · rw [nI_eq (by omega) (by omega)] at c_7
    refine h_aload_n dX5_otherEnd_19 rfl ?_
    refine h_getR dX5_otherEnd_20 f_X5_22_5 rfl rfl ?_
    refine h_iload_n dX5_otherEnd_23 rfl ?_
    refine h_ialdN (j := k) dX5_otherEnd_24 rfl rfl (by omega) rfl (hlg _ (by omega)).1 ?_
    refine h_ireturn dX5_otherEnd_25 rfl ?_
    first
      | (rw [show oth fa fb k s = fb k from if_pos c_7] at hQ; exact hQ)
      | (rw [show oth fa fb k s = fa k from if_neg c_7] at hQ; exact hQ)
  · rw [nI_eq (by omega) (by omega)] at c_7
    refine h_aload_n dX5_otherEnd_10 rfl ?_
    refine h_getR dX5_otherEnd_11 f_X5_25_5 rfl rfl ?_
    refine h_iload_n dX5_otherEnd_14 rfl ?_
    refine h_ialdN (j := k) dX5_otherEnd_15 rfl rfl (by omega) rfl (hlg _ (by omega)).2.1 ?_
    refine h_goto (tgt := 25) dX5_otherEnd_16 rfl ?_
    refine h_ireturn dX5_otherEnd_25 rfl ?_
    first
      | (rw [show oth fa fb k s = fb k from if_pos c_7] at hQ; exact hQ)
      | (rw [show oth fa fb k s = fa k from if_neg c_7] at hQ; exact hQ)
theorem c_findLast_29 {l : Launch} {dp : Nat} {ns nl : Nat} {pl fa fb sl : Nat → Nat} {rs : Nat → Int32} {I : hI} {J : hJ} {lt tx : Option Nat} {f : Nat → Nat} {s : Nat} {Q : hQ} (hN : cN I 29 ns nl pl fa fb sl rs) (hw : netW ns nl pl fa fb sl rs) (hs : s < ns) (hf : ∀ t, t < ns → I 35 t = enc (f t)) (hQ : Q (some (.int (lsI fa fb sl f nl s))) hSH I J (hRR lt tx)) : HC l mX5_findLastLeg (dp + 1) 0 0 [.ref 29, .int (nI s)] hSH I J (hRR lt tx) Q := by
  refine HC.of (by decide +kernel) rfl (Nat.le_of_ble_eq_true rfl) ?_
  obtain ⟨hns, hnl, hpl, hlg⟩ := id hN
  obtain ⟨hn6, hl12, hW, hp99, hr99⟩ := id hw
  have Lo : ∀ (m k : Nat), nl - k < m → k ≤ nl → (∀ j, j < k → lsP fa fb sl f j s = false) → ¬ s = 0 → f s < 1000000 → ∀ z3 z4, HV l mX5_findLastLeg (dp + 1) 0 0 19 [some (.ref 29), some (.int (nI s)), some (.int (nI k)), z3, z4] [] hSH I J (hRR lt tx) Q := by
    intro m
    induction m with
    | zero => intro k h1 h2 hj h0 hfs z3 z4; omega
    | succ m ih =>
      intro k h1 h2 hj h0 hfs z3 z4
      refine h_iload_n dX5_findLastLeg_19 rfl ?_
      refine h_aload_n dX5_findLastLeg_20 rfl ?_
      refine h_getI dX5_findLastLeg_21 f_X5_19_5 rfl hnl ?_
      refine h_icmpge (tgt := 107) dX5_findLastLeg_24 rfl (fun c_24 => ?_) (fun c_24 => ?_)
      · rw [nI_leI (by omega) (by omega)] at c_24
        refine h_bipush dX5_findLastLeg_107 cb_m9 ?_
        refine h_ireturn dX5_findLastLeg_109 rfl ?_
        rw [lsI_no (fun j hj2 => hj j (by omega))] at hQ
        exact hQ
      · rw [nI_leI (by omega) (by omega)] at c_24
        have hWk := hW k (by omega)
        have ho := oth_lt hW (k := k) (s := s) (by omega)
        refine h_aload_n dX5_findLastLeg_27 rfl ?_
        refine h_getR dX5_findLastLeg_28 f_X5_22_5 rfl rfl ?_
        refine h_iload_n dX5_findLastLeg_31 rfl ?_
        refine h_ialdN (j := k) dX5_findLastLeg_32 rfl rfl (by omega) rfl (hlg _ (by omega)).1 ?_
        refine h_iload_n dX5_findLastLeg_33 rfl ?_
        refine h_icmpeq (tgt := 47) dX5_findLastLeg_34 rfl (fun c_34 => ?_) (fun c_34 => ?_)
        · rw [nI_eq (by omega) (by omega)] at c_34
          refine h_iconst dX5_findLastLeg_47 ci_1 ?_
          refine h_goto (tgt := 52) dX5_findLastLeg_48 rfl ?_
          refine h_istore_n dX5_findLastLeg_52 (Nat.le_of_ble_eq_true rfl) ?_
          refine h_aload_n dX5_findLastLeg_53 rfl ?_
          refine h_iload_n dX5_findLastLeg_54 rfl ?_
          refine h_iload_n dX5_findLastLeg_55 rfl ?_
          refine h_cV2 dX5_findLastLeg_56 k2_176 oVX5_otherEnd rfl rfl ?_
          refine c_otherEnd_29 hN hw (by omega) hs ?_
          refine h_istore dX5_findLastLeg_59 (Nat.le_of_ble_eq_true rfl) ?_
          refine h_iload_n dX5_findLastLeg_61 rfl ?_
          refine h_ifeq (tgt := 101) dX5_findLastLeg_62 rfl (fun c => absurd c (by decide)) (fun _ => ?_)
          refine h_aload_n dX5_findLastLeg_65 rfl ?_
          refine h_getR dX5_findLastLeg_66 f_X5_34_5 rfl rfl ?_
          refine h_iload dX5_findLastLeg_69 rfl ?_
          refine h_ialdN (j := oth fa fb k s) dX5_findLastLeg_71 rfl rfl (by omega) rfl (hf _ (by omega)) ?_
          refine h_iconst dX5_findLastLeg_72 ci_m1 ?_
          refine h_icmpeq (tgt := 101) dX5_findLastLeg_73 rfl (fun c_73 => ?_) (fun c_73 => ?_)
          · have c_73 := enc_m1 c_73
            refine h_iinc (v := nI (k + 1)) dX5_findLastLeg_101 rfl (nI_1 _) (Nat.le_of_ble_eq_true rfl) ?_
            refine h_goto (tgt := 19) dX5_findLastLeg_104 rfl ?_
            refine ih (k + 1) (by omega) (by omega) (fun j hj2 => ?_) h0 hfs _ _
            by_cases e : j = k
            · subst e
              refine lsP_no hW (by omega) ?_
              rintro ⟨a | a, b, c⟩ <;> omega
            · exact hj j (by omega)
          · have hfo := enc_n c_73
            refine h_aload_n dX5_findLastLeg_76 rfl ?_
            refine h_getR dX5_findLastLeg_77 f_X5_34_5 rfl rfl ?_
            refine h_iload dX5_findLastLeg_80 rfl ?_
            refine h_ialdN (j := oth fa fb k s) dX5_findLastLeg_82 rfl rfl (by omega) rfl ((hf _ ho).trans (enc_lt hfo)) ?_
            refine h_aload_n dX5_findLastLeg_83 rfl ?_
            refine h_getR dX5_findLastLeg_84 f_X5_31_5 rfl rfl ?_
            refine h_iload_n dX5_findLastLeg_87 rfl ?_
            refine h_ialdN (j := k) dX5_findLastLeg_88 rfl rfl (by omega) rfl (hlg _ (by omega)).2.2.2 ?_
            refine h_iaddN dX5_findLastLeg_89 ?_
            refine h_aload_n dX5_findLastLeg_90 rfl ?_
            refine h_getR dX5_findLastLeg_91 f_X5_34_5 rfl rfl ?_
            refine h_iload_n dX5_findLastLeg_94 rfl ?_
            refine h_ialdN (j := s) dX5_findLastLeg_95 rfl rfl (by omega) rfl ((hf s hs).trans (enc_lt hfs)) ?_
            refine h_icmpne (tgt := 101) dX5_findLastLeg_96 rfl (fun c_96 => ?_) (fun c_96 => ?_)
            · rw [nI_eq (by omega) (by omega)] at c_96
              refine h_iinc (v := nI (k + 1)) dX5_findLastLeg_101 rfl (nI_1 _) (Nat.le_of_ble_eq_true rfl) ?_
              refine h_goto (tgt := 19) dX5_findLastLeg_104 rfl ?_
              refine ih (k + 1) (by omega) (by omega) (fun j hj2 => ?_) h0 hfs _ _
              by_cases e : j = k
              · subst e
                refine lsP_no hW (by omega) ?_
                rintro ⟨a | a, b, c⟩ <;> omega
              · exact hj j (by omega)
            · rw [nI_eq (by omega) (by omega)] at c_96
              refine h_iload_n dX5_findLastLeg_99 rfl ?_
              refine h_ireturn dX5_findLastLeg_100 rfl ?_
              rw [lsI_is h0 hfs (k := k) (by omega) ((lsP_oth hW (by omega)).mpr ⟨by omega, hfo, c_96⟩) hj] at hQ
              exact hQ
        · rw [nI_eq (by omega) (by omega)] at c_34
          refine h_aload_n dX5_findLastLeg_37 rfl ?_
          refine h_getR dX5_findLastLeg_38 f_X5_25_5 rfl rfl ?_
          refine h_iload_n dX5_findLastLeg_41 rfl ?_
          refine h_ialdN (j := k) dX5_findLastLeg_42 rfl rfl (by omega) rfl (hlg _ (by omega)).2.1 ?_
          refine h_iload_n dX5_findLastLeg_43 rfl ?_
          refine h_icmpne (tgt := 51) dX5_findLastLeg_44 rfl (fun c_44 => ?_) (fun c_44 => ?_)
          · rw [nI_eq (by omega) (by omega)] at c_44
            refine h_iconst dX5_findLastLeg_51 ci_0 ?_
            refine h_istore_n dX5_findLastLeg_52 (Nat.le_of_ble_eq_true rfl) ?_
            refine h_aload_n dX5_findLastLeg_53 rfl ?_
            refine h_iload_n dX5_findLastLeg_54 rfl ?_
            refine h_iload_n dX5_findLastLeg_55 rfl ?_
            refine h_cV2 dX5_findLastLeg_56 k2_176 oVX5_otherEnd rfl rfl ?_
            refine c_otherEnd_29 hN hw (by omega) hs ?_
            refine h_istore dX5_findLastLeg_59 (Nat.le_of_ble_eq_true rfl) ?_
            refine h_iload_n dX5_findLastLeg_61 rfl ?_
            refine h_ifeq (tgt := 101) dX5_findLastLeg_62 rfl (fun _ => ?_) (fun c => absurd (by decide) c)
            refine h_iinc (v := nI (k + 1)) dX5_findLastLeg_101 rfl (nI_1 _) (Nat.le_of_ble_eq_true rfl) ?_
            refine h_goto (tgt := 19) dX5_findLastLeg_104 rfl ?_
            refine ih (k + 1) (by omega) (by omega) (fun j hj2 => ?_) h0 hfs _ _
            by_cases e : j = k
            · subst e
              refine lsP_no hW (by omega) ?_
              rintro ⟨a | a, b, c⟩ <;> omega
            · exact hj j (by omega)
          · rw [nI_eq (by omega) (by omega)] at c_44
            refine h_iconst dX5_findLastLeg_47 ci_1 ?_
            refine h_goto (tgt := 52) dX5_findLastLeg_48 rfl ?_
            refine h_istore_n dX5_findLastLeg_52 (Nat.le_of_ble_eq_true rfl) ?_
            refine h_aload_n dX5_findLastLeg_53 rfl ?_
            refine h_iload_n dX5_findLastLeg_54 rfl ?_
            refine h_iload_n dX5_findLastLeg_55 rfl ?_
            refine h_cV2 dX5_findLastLeg_56 k2_176 oVX5_otherEnd rfl rfl ?_
            refine c_otherEnd_29 hN hw (by omega) hs ?_
            refine h_istore dX5_findLastLeg_59 (Nat.le_of_ble_eq_true rfl) ?_
            refine h_iload_n dX5_findLastLeg_61 rfl ?_
            refine h_ifeq (tgt := 101) dX5_findLastLeg_62 rfl (fun c => absurd c (by decide)) (fun _ => ?_)
            refine h_aload_n dX5_findLastLeg_65 rfl ?_
            refine h_getR dX5_findLastLeg_66 f_X5_34_5 rfl rfl ?_
            refine h_iload dX5_findLastLeg_69 rfl ?_
            refine h_ialdN (j := oth fa fb k s) dX5_findLastLeg_71 rfl rfl (by omega) rfl (hf _ (by omega)) ?_
            refine h_iconst dX5_findLastLeg_72 ci_m1 ?_
            refine h_icmpeq (tgt := 101) dX5_findLastLeg_73 rfl (fun c_73 => ?_) (fun c_73 => ?_)
            · have c_73 := enc_m1 c_73
              refine h_iinc (v := nI (k + 1)) dX5_findLastLeg_101 rfl (nI_1 _) (Nat.le_of_ble_eq_true rfl) ?_
              refine h_goto (tgt := 19) dX5_findLastLeg_104 rfl ?_
              refine ih (k + 1) (by omega) (by omega) (fun j hj2 => ?_) h0 hfs _ _
              by_cases e : j = k
              · subst e
                refine lsP_no hW (by omega) ?_
                rintro ⟨a | a, b, c⟩ <;> omega
              · exact hj j (by omega)
            · have hfo := enc_n c_73
              refine h_aload_n dX5_findLastLeg_76 rfl ?_
              refine h_getR dX5_findLastLeg_77 f_X5_34_5 rfl rfl ?_
              refine h_iload dX5_findLastLeg_80 rfl ?_
              refine h_ialdN (j := oth fa fb k s) dX5_findLastLeg_82 rfl rfl (by omega) rfl ((hf _ ho).trans (enc_lt hfo)) ?_
              refine h_aload_n dX5_findLastLeg_83 rfl ?_
              refine h_getR dX5_findLastLeg_84 f_X5_31_5 rfl rfl ?_
              refine h_iload_n dX5_findLastLeg_87 rfl ?_
              refine h_ialdN (j := k) dX5_findLastLeg_88 rfl rfl (by omega) rfl (hlg _ (by omega)).2.2.2 ?_
              refine h_iaddN dX5_findLastLeg_89 ?_
              refine h_aload_n dX5_findLastLeg_90 rfl ?_
              refine h_getR dX5_findLastLeg_91 f_X5_34_5 rfl rfl ?_
              refine h_iload_n dX5_findLastLeg_94 rfl ?_
              refine h_ialdN (j := s) dX5_findLastLeg_95 rfl rfl (by omega) rfl ((hf s hs).trans (enc_lt hfs)) ?_
              refine h_icmpne (tgt := 101) dX5_findLastLeg_96 rfl (fun c_96 => ?_) (fun c_96 => ?_)
              · rw [nI_eq (by omega) (by omega)] at c_96
                refine h_iinc (v := nI (k + 1)) dX5_findLastLeg_101 rfl (nI_1 _) (Nat.le_of_ble_eq_true rfl) ?_
                refine h_goto (tgt := 19) dX5_findLastLeg_104 rfl ?_
                refine ih (k + 1) (by omega) (by omega) (fun j hj2 => ?_) h0 hfs _ _
                by_cases e : j = k
                · subst e
                  refine lsP_no hW (by omega) ?_
                  rintro ⟨a | a, b, c⟩ <;> omega
                · exact hj j (by omega)
              · rw [nI_eq (by omega) (by omega)] at c_96
                refine h_iload_n dX5_findLastLeg_99 rfl ?_
                refine h_ireturn dX5_findLastLeg_100 rfl ?_
                rw [lsI_is h0 hfs (k := k) (by omega) ((lsP_oth hW (by omega)).mpr ⟨by omega, hfo, c_96⟩) hj] at hQ
                exact hQ
  show HV l mX5_findLastLeg (dp + 1) 0 0 0 [some (.ref 29), some (.int (nI s)), none, none, none] [] hSH I J (hRR lt tx) Q
  refine h_iload_n dX5_findLastLeg_0 rfl ?_
  refine h_ifeq (tgt := 14) dX5_findLastLeg_1 rfl (fun c_1 => ?_) (fun c_1 => ?_)
  · rw [show (0 : Int32) = nI 0 from rfl, nI_eq (by omega) (by omega)] at c_1
    refine h_bipush dX5_findLastLeg_14 cb_m9 ?_
    refine h_ireturn dX5_findLastLeg_16 rfl ?_
    rw [lsI_0 (by first | exact Or.inl c_1 | exact Or.inr (enc_m1 c_11))] at hQ
    exact hQ
  · rw [show (0 : Int32) = nI 0 from rfl, nI_eq (by omega) (by omega)] at c_1
    refine h_aload_n dX5_findLastLeg_4 rfl ?_
    refine h_getR dX5_findLastLeg_5 f_X5_34_5 rfl rfl ?_
    refine h_iload_n dX5_findLastLeg_8 rfl ?_
    refine h_ialdN (j := s) dX5_findLastLeg_9 rfl rfl (by omega) rfl (hf _ (by omega)) ?_
    refine h_iconst dX5_findLastLeg_10 ci_m1 ?_
    refine h_icmpne (tgt := 17) dX5_findLastLeg_11 rfl (fun c_11 => ?_) (fun c_11 => ?_)
    · refine h_iconst dX5_findLastLeg_17 ci_0 ?_
      refine h_istore_n dX5_findLastLeg_18 (Nat.le_of_ble_eq_true rfl) ?_
      exact Lo (nl + 1) 0 (by omega) (by omega) (fun j hj => by omega) c_1 (enc_n c_11) _ _
    · refine h_bipush dX5_findLastLeg_14 cb_m9 ?_
      refine h_ireturn dX5_findLastLeg_16 rfl ?_
      rw [lsI_0 (by first | exact Or.inl c_1 | exact Or.inr (enc_m1 c_11))] at hQ
      exact hQ
theorem c_carried_29 {l : Launch} {dp : Nat} {ns nl : Nat} {pl fa fb sl : Nat → Nat} {rs : Nat → Int32} {I : hI} {J : hJ} {lt tx : Option Nat} {f : Nat → Nat} {s : Nat} {Q : hQ} (hN : cN I 29 ns nl pl fa fb sl rs) (hw : netW ns nl pl fa fb sl rs) (hs : s < ns) (hla : ∀ t, t < ns → I 36 t = lsI fa fb sl f nl t) (hQ : Q (some (.int (lev fa fb sl f rs nl ns s))) hSH I J (hRR lt tx)) : HC l mX5_carriedLevel (dp + 1) 0 0 [.ref 29, .int (nI s)] hSH I J (hRR lt tx) Q := by
  refine HC.of (by decide +kernel) rfl (Nat.le_of_ble_eq_true rfl) ?_
  obtain ⟨hns, hnl, hpl, hlg⟩ := id hN
  obtain ⟨hn6, hl12, hW, hp99, hr99⟩ := id hw
  have Lo : ∀ (m q a : Nat) (v : Int32), ns - q < m → q ≤ ns → a < ns → v + lev fa fb sl f rs nl (ns - q) a = lev fa fb sl f rs nl ns s → ∀ z5, HV l mX5_carriedLevel (dp + 1) 0 0 7 [some (.ref 29), some (.int (nI s)), some (.int v), some (.int (nI a)), some (.int (nI q)), z5] [] hSH I J (hRR lt tx) Q := by
    intro m
    induction m with
    | zero => intro q a v h1 h2 ha hv z5; omega
    | succ m ih =>
      intro q a v h1 h2 ha hv z5
      refine h_iload dX5_carriedLevel_7 rfl ?_
      refine h_aload_n dX5_carriedLevel_9 rfl ?_
      refine h_getI dX5_carriedLevel_10 f_X5_9_5 rfl hns ?_
      refine h_icmpge (tgt := 81) dX5_carriedLevel_13 rfl (fun c_13 => ?_) (fun c_13 => ?_)
      · rw [nI_leI (by omega) (by omega)] at c_13
        refine h_iload_n dX5_carriedLevel_81 rfl ?_
        refine h_ireturn dX5_carriedLevel_82 rfl ?_
        first
          | (have e : lst fa fb sl f nl a = none := lsI_m9 hl12 c_24
             obtain ⟨y, hy⟩ : ∃ y, ns - q = y + 1 := ⟨ns - q - 1, by omega⟩
             have e2 : lev fa fb sl f rs nl (ns - q) a = 0 := by rw [hy]; unfold lev; rw [e]
             rw [e2, Int32.add_zero] at hv
             rw [hv]; exact hQ)
          | (have e2 : lev fa fb sl f rs nl (ns - q) a = 0 := by rw [show ns - q = 0 by omega]; rfl
             rw [e2, Int32.add_zero] at hv
             rw [hv]; exact hQ)
      · rw [nI_leI (by omega) (by omega)] at c_13
        refine h_aload_n dX5_carriedLevel_16 rfl ?_
        refine h_getR dX5_carriedLevel_17 f_X5_37_5 rfl rfl ?_
        refine h_iload_n dX5_carriedLevel_20 rfl ?_
        refine h_ialdN (j := a) dX5_carriedLevel_21 rfl rfl (by omega) rfl (hla _ (by omega)) ?_
        refine h_bipush dX5_carriedLevel_22 cb_m9 ?_
        refine h_icmpeq (tgt := 81) dX5_carriedLevel_24 rfl (fun c_24 => ?_) (fun c_24 => ?_)
        · refine h_iload_n dX5_carriedLevel_81 rfl ?_
          refine h_ireturn dX5_carriedLevel_82 rfl ?_
          first
            | (have e : lst fa fb sl f nl a = none := lsI_m9 hl12 c_24
               obtain ⟨y, hy⟩ : ∃ y, ns - q = y + 1 := ⟨ns - q - 1, by omega⟩
               have e2 : lev fa fb sl f rs nl (ns - q) a = 0 := by rw [hy]; unfold lev; rw [e]
               rw [e2, Int32.add_zero] at hv
               rw [hv]; exact hQ)
            | (have e2 : lev fa fb sl f rs nl (ns - q) a = 0 := by rw [show ns - q = 0 by omega]; rfl
               rw [e2, Int32.add_zero] at hv
               rw [hv]; exact hQ)
        · obtain ⟨k, hk⟩ := lsI_n9 c_24
          obtain ⟨-, -, hkl, hkp⟩ := lst_some hk
          have ho := oth_lt hW (k := k) (s := a) hkl
          have hWk := hW k hkl
          refine h_aload_n dX5_carriedLevel_27 rfl ?_
          refine h_getR dX5_carriedLevel_28 f_X5_37_5 rfl rfl ?_
          refine h_iload_n dX5_carriedLevel_31 rfl ?_
          refine h_ialdN (j := a) dX5_carriedLevel_32 rfl rfl (by omega) rfl ((hla a ha).trans (lsI_some hk)) ?_
          refine h_istore dX5_carriedLevel_33 (Nat.le_of_ble_eq_true rfl) ?_
          refine h_iload_n dX5_carriedLevel_35 rfl ?_
          refine h_aload_n dX5_carriedLevel_36 rfl ?_
          refine h_getR dX5_carriedLevel_37 f_X5_25_5 rfl rfl ?_
          refine h_iload dX5_carriedLevel_40 rfl ?_
          refine h_ialdN (j := k) dX5_carriedLevel_42 rfl rfl (by omega) rfl (hlg _ (by omega)).2.1 ?_
          refine h_iload_n dX5_carriedLevel_43 rfl ?_
          refine h_icmpne (tgt := 57) dX5_carriedLevel_44 rfl (fun c_44 => ?_) (fun c_44 => ?_)
          · rw [nI_eq (by omega) (by omega)] at c_44
            refine h_aload_n dX5_carriedLevel_57 rfl ?_
            refine h_getR dX5_carriedLevel_58 f_X5_28_5 rfl rfl ?_
            refine h_iload dX5_carriedLevel_61 rfl ?_
            refine h_ialdN (j := k) dX5_carriedLevel_63 rfl rfl (by omega) rfl (hlg _ (by omega)).2.2.1 ?_
            refine h_ineg dX5_carriedLevel_64 ?_
            refine h_iadd dX5_carriedLevel_65 ?_
            refine h_istore_n dX5_carriedLevel_66 (Nat.le_of_ble_eq_true rfl) ?_
            refine h_aload_n dX5_carriedLevel_67 rfl ?_
            refine h_iload dX5_carriedLevel_68 rfl ?_
            refine h_iload_n dX5_carriedLevel_70 rfl ?_
            refine h_cV2 dX5_carriedLevel_71 k2_176 oVX5_otherEnd rfl rfl ?_
            refine c_otherEnd_29 hN hw (by omega) ha ?_
            refine h_istore_n dX5_carriedLevel_74 (Nat.le_of_ble_eq_true rfl) ?_
            refine h_iinc (v := nI (q + 1)) dX5_carriedLevel_75 rfl (nI_1 _) (Nat.le_of_ble_eq_true rfl) ?_
            refine h_goto (tgt := 7) dX5_carriedLevel_78 rfl ?_
            refine ih (q + 1) (oth fa fb k a) _ (by omega) (by omega) ho ?_ _
            rw [← hv, show ns - q = (ns - (q + 1)) + 1 by omega]
            show _ = v + (match lst fa fb sl f nl a with | none => 0 | some k => (if fb k = a then rs k else - rs k) + lev fa fb sl f rs nl (ns - (q + 1)) (oth fa fb k a))
            rw [hk]
            first | (show _ = v + ((if fb k = a then rs k else - rs k) + _); rw [if_pos c_44, Int32.add_assoc]; done) | (show _ = v + ((if fb k = a then rs k else - rs k) + _); rw [if_neg c_44, Int32.add_assoc])
          · rw [nI_eq (by omega) (by omega)] at c_44
            refine h_aload_n dX5_carriedLevel_47 rfl ?_
            refine h_getR dX5_carriedLevel_48 f_X5_28_5 rfl rfl ?_
            refine h_iload dX5_carriedLevel_51 rfl ?_
            refine h_ialdN (j := k) dX5_carriedLevel_53 rfl rfl (by omega) rfl (hlg _ (by omega)).2.2.1 ?_
            refine h_goto (tgt := 65) dX5_carriedLevel_54 rfl ?_
            refine h_iadd dX5_carriedLevel_65 ?_
            refine h_istore_n dX5_carriedLevel_66 (Nat.le_of_ble_eq_true rfl) ?_
            refine h_aload_n dX5_carriedLevel_67 rfl ?_
            refine h_iload dX5_carriedLevel_68 rfl ?_
            refine h_iload_n dX5_carriedLevel_70 rfl ?_
            refine h_cV2 dX5_carriedLevel_71 k2_176 oVX5_otherEnd rfl rfl ?_
            refine c_otherEnd_29 hN hw (by omega) ha ?_
            refine h_istore_n dX5_carriedLevel_74 (Nat.le_of_ble_eq_true rfl) ?_
            refine h_iinc (v := nI (q + 1)) dX5_carriedLevel_75 rfl (nI_1 _) (Nat.le_of_ble_eq_true rfl) ?_
            refine h_goto (tgt := 7) dX5_carriedLevel_78 rfl ?_
            refine ih (q + 1) (oth fa fb k a) _ (by omega) (by omega) ho ?_ _
            rw [← hv, show ns - q = (ns - (q + 1)) + 1 by omega]
            show _ = v + (match lst fa fb sl f nl a with | none => 0 | some k => (if fb k = a then rs k else - rs k) + lev fa fb sl f rs nl (ns - (q + 1)) (oth fa fb k a))
            rw [hk]
            first | (show _ = v + ((if fb k = a then rs k else - rs k) + _); rw [if_pos c_44, Int32.add_assoc]; done) | (show _ = v + ((if fb k = a then rs k else - rs k) + _); rw [if_neg c_44, Int32.add_assoc])
  show HV l mX5_carriedLevel (dp + 1) 0 0 0 [some (.ref 29), some (.int (nI s)), none, none, none, none] [] hSH I J (hRR lt tx) Q
  refine h_iconst dX5_carriedLevel_0 ci_0 ?_
  refine h_istore_n dX5_carriedLevel_1 (Nat.le_of_ble_eq_true rfl) ?_
  refine h_iload_n dX5_carriedLevel_2 rfl ?_
  refine h_istore_n dX5_carriedLevel_3 (Nat.le_of_ble_eq_true rfl) ?_
  refine h_iconst dX5_carriedLevel_4 ci_0 ?_
  refine h_istore dX5_carriedLevel_5 (Nat.le_of_ble_eq_true rfl) ?_
  exact Lo (ns + 1) 0 s _ (by omega) (by omega) hs (by rw [show nI 0 = (0 : Int32) from rfl, Int32.zero_add]; rfl) _
theorem c_carry_29 {l : Launch} {dp : Nat} {ns nl : Nat} {pl fa fb sl : Nat → Nat} {rs : Nat → Int32} {I : hI} {J : hJ} {lt tx : Option Nat} {Q : hQ} (hN : cN I 29 ns nl pl fa fb sl rs) (hw : netW ns nl pl fa fb sl rs) (hQ : ∀ g1 g2 g3, (∀ s, s < ns → g1 s = enc (dist fa fb sl nl s)) → (∀ s, s < ns → g2 s = lsI fa fb sl (dist fa fb sl nl) nl s) → (∀ s, s < ns → g3 s = lvl fa fb sl rs nl s) → Q none hSH (upA (upA (upA I 35 g1) 36 g2) 37 g3) J (hRR lt tx)) : HC l mX5_carry (dp + 2) 0 0 [.ref 29] hSH I J (hRR lt tx) Q := by
  refine HC.of (by decide +kernel) rfl (Nat.le_of_ble_eq_true rfl) ?_
  obtain ⟨hns, hnl, hpl, hlg⟩ := id hN
  obtain ⟨hn6, hl12, hW, hp99, hr99⟩ := id hw
  have L3 : ∀ (m s : Nat) (g1 g2 g3 : Nat → Int32), ns - s < m → s ≤ ns → (∀ s, s < ns → g1 s = enc (dist fa fb sl nl s)) → (∀ s, s < ns → g2 s = lsI fa fb sl (dist fa fb sl nl) nl s) → (∀ t, t < s → g3 t = lvl fa fb sl rs nl t) → HV l mX5_carry (dp + 2) 0 0 39 [some (.ref 29), some (.int (nI s))] [] hSH (upA (upA (upA I 35 g1) 36 g2) 37 g3) J (hRR lt tx) Q := by
    intro m
    induction m with
    | zero => intro s g1 g2 g3 h1 h2 e1 e2 e3; omega
    | succ m ih =>
      intro s g1 g2 g3 h1 h2 e1 e2 e3
      refine h_iload_n dX5_carry_39 rfl ?_
      refine h_aload_n dX5_carry_40 rfl ?_
      refine h_getI dX5_carry_41 f_X5_9_5 rfl hns ?_
      refine h_icmpge (tgt := 64) dX5_carry_44 rfl (fun c_44 => ?_) (fun c_44 => ?_)
      · rw [nI_leI (by omega) (by omega)] at c_44
        refine h_return dX5_carry_64 rfl ?_
        exact hQ g1 g2 g3 e1 e2 (fun t ht => e3 t (by omega))
      · rw [nI_leI (by omega) (by omega)] at c_44
        refine h_aload_n dX5_carry_47 rfl ?_
        refine h_getR dX5_carry_48 f_X5_40_5 rfl rfl ?_
        refine h_iload_n dX5_carry_51 rfl ?_
        refine h_aload_n dX5_carry_52 rfl ?_
        refine h_iload_n dX5_carry_53 rfl ?_
        refine h_cV1 dX5_carry_54 k2_180 oVX5_carriedLevel rfl rfl ?_
        refine c_carried_29 (f := dist fa fb sl nl) hN hw (by omega) e2 ?_
        refine h_iastN (j := s) dX5_carry_57 rfl rfl (by omega) rfl ?_
        refine h_iinc (v := nI (s + 1)) dX5_carry_58 rfl (nI_1 _) (Nat.le_of_ble_eq_true rfl) ?_
        refine h_goto (tgt := 39) dX5_carry_61 rfl ?_
        rw [upA_I]
        exact ih (s + 1) g1 g2 _ (by omega) (by omega) e1 e2 (fun t ht => by
          by_cases e : t = s
          · subst e; rw [upd_s]; exact (lev_after hW (by omega) 6 hn6).symm
          · rw [upd_n _ _ e]; exact e3 t (by omega))
  have L2 : ∀ (m s : Nat) (g1 g2 : Nat → Int32), ns - s < m → s ≤ ns → (∀ s, s < ns → g1 s = enc (dist fa fb sl nl s)) → (∀ t, t < s → g2 t = lsI fa fb sl (dist fa fb sl nl) nl t) → HV l mX5_carry (dp + 2) 0 0 12 [some (.ref 29), some (.int (nI s))] [] hSH (upA (upA I 35 g1) 36 g2) J (hRR lt tx) Q := by
    intro m
    induction m with
    | zero => intro s g1 g2 h1 h2 e1 e2; omega
    | succ m ih =>
      intro s g1 g2 h1 h2 e1 e2
      refine h_iload_n dX5_carry_12 rfl ?_
      refine h_aload_n dX5_carry_13 rfl ?_
      refine h_getI dX5_carry_14 f_X5_9_5 rfl hns ?_
      refine h_icmpge (tgt := 37) dX5_carry_17 rfl (fun c_17 => ?_) (fun c_17 => ?_)
      · rw [nI_leI (by omega) (by omega)] at c_17
        refine h_iconst dX5_carry_37 ci_0 ?_
        refine h_istore_n dX5_carry_38 (Nat.le_of_ble_eq_true rfl) ?_
        have h0 := L3 (ns + 1) 0 g1 g2 (upA (upA I 35 g1) 36 g2 37) (by omega) (by omega) e1 (fun t ht => e2 t (by omega)) (fun t ht => by omega)
        rw [upA_id] at h0
        exact h0
      · rw [nI_leI (by omega) (by omega)] at c_17
        refine h_aload_n dX5_carry_20 rfl ?_
        refine h_getR dX5_carry_21 f_X5_37_5 rfl rfl ?_
        refine h_iload_n dX5_carry_24 rfl ?_
        refine h_aload_n dX5_carry_25 rfl ?_
        refine h_iload_n dX5_carry_26 rfl ?_
        refine h_cV1 dX5_carry_27 k2_172 oVX5_findLastLeg rfl rfl ?_
        refine c_findLast_29 (f := dist fa fb sl nl) hN hw (by omega) e1 ?_
        refine h_iastN (j := s) dX5_carry_30 rfl rfl (by omega) rfl ?_
        refine h_iinc (v := nI (s + 1)) dX5_carry_31 rfl (nI_1 _) (Nat.le_of_ble_eq_true rfl) ?_
        refine h_goto (tgt := 12) dX5_carry_34 rfl ?_
        rw [upA_I]
        exact ih (s + 1) g1 _ (by omega) (by omega) e1 (fun t ht => by
          by_cases e : t = s
          · subst e; rw [upd_s]
          · rw [upd_n _ _ e]; exact e2 t (by omega))
  show HV l mX5_carry (dp + 2) 0 0 0 [some (.ref 29), none] [] hSH I J (hRR lt tx) Q
  refine h_aload_n dX5_carry_0 rfl ?_
  refine h_aload_n dX5_carry_1 rfl ?_
  refine h_getR dX5_carry_2 f_X5_34_5 rfl rfl ?_
  refine h_bipush dX5_carry_5 cb_m9 ?_
  refine h_cV2 dX5_carry_7 k2_165 oVX5_spread rfl rfl ?_
  refine c_spread_29_35 hN hw (fun g1 hg1 => ?_)
  have e1 : ∀ s, s < ns → g1 s = enc (dist fa fb sl nl s) := fun s hs => by rw [hg1 s hs, slE_m9 hl12, dist_eq hW hn6 (Nat.le_refl _)]
  refine h_iconst dX5_carry_10 ci_0 ?_
  refine h_istore_n dX5_carry_11 (Nat.le_of_ble_eq_true rfl) ?_
  have h0 := L2 (ns + 1) 0 g1 (upA I 35 g1 36) (by omega) (by omega) e1 (fun t ht => by omega)
  rw [upA_id] at h0
  exact h0
